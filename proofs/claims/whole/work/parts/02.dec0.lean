theorem dX0_init_0 : decode cX0_init 0 = .ok (.aload_n 0, 1) := by decide +kernel
theorem dX0_init_1 : decode cX0_init 1 = .ok (.invokespecial 3, 3) := by decide +kernel
theorem dX0_init_4 : decode cX0_init 4 = .ok (.aload_n 0, 1) := by decide +kernel
theorem dX0_init_5 : decode cX0_init 5 = .ok (.bipush 6, 2) := by decide +kernel
theorem dX0_init_7 : decode cX0_init 7 = .ok (.newarray .int, 2) := by decide +kernel
theorem dX0_init_9 : decode cX0_init 9 = .ok (.putfield 9, 3) := by decide +kernel
theorem dX0_init_12 : decode cX0_init 12 = .ok (.aload_n 0, 1) := by decide +kernel
theorem dX0_init_13 : decode cX0_init 13 = .ok (.bipush 6, 2) := by decide +kernel
theorem dX0_init_15 : decode cX0_init 15 = .ok (.newarray .int, 2) := by decide +kernel
theorem dX0_init_17 : decode cX0_init 17 = .ok (.putfield 15, 3) := by decide +kernel
theorem dX0_init_20 : decode cX0_init 20 = .ok (.aload_n 0, 1) := by decide +kernel
theorem dX0_init_21 : decode cX0_init 21 = .ok (.bipush 36, 2) := by decide +kernel
theorem dX0_init_23 : decode cX0_init 23 = .ok (.newarray .int, 2) := by decide +kernel
theorem dX0_init_25 : decode cX0_init 25 = .ok (.putfield 18, 3) := by decide +kernel
theorem dX0_init_28 : decode cX0_init 28 = .ok (.aload_n 0, 1) := by decide +kernel
theorem dX0_init_29 : decode cX0_init 29 = .ok (.bipush 36, 2) := by decide +kernel
theorem dX0_init_31 : decode cX0_init 31 = .ok (.newarray .int, 2) := by decide +kernel
theorem dX0_init_33 : decode cX0_init 33 = .ok (.putfield 21, 3) := by decide +kernel
theorem dX0_init_36 : decode cX0_init 36 = .ok (.aload_n 0, 1) := by decide +kernel
theorem dX0_init_37 : decode cX0_init 37 = .ok (.iconst 4, 1) := by decide +kernel
theorem dX0_init_38 : decode cX0_init 38 = .ok (.newarray .int, 2) := by decide +kernel
theorem dX0_init_40 : decode cX0_init 40 = .ok (.putfield 24, 3) := by decide +kernel
theorem dX0_init_43 : decode cX0_init 43 = .ok (.aload_n 0, 1) := by decide +kernel
theorem dX0_init_44 : decode cX0_init 44 = .ok (.iconst 4, 1) := by decide +kernel
theorem dX0_init_45 : decode cX0_init 45 = .ok (.newarray .int, 2) := by decide +kernel
theorem dX0_init_47 : decode cX0_init 47 = .ok (.putfield 27, 3) := by decide +kernel
theorem dX0_init_50 : decode cX0_init 50 = .ok (.aload_n 0, 1) := by decide +kernel
theorem dX0_init_51 : decode cX0_init 51 = .ok (.iconst 4, 1) := by decide +kernel
theorem dX0_init_52 : decode cX0_init 52 = .ok (.newarray .int, 2) := by decide +kernel
theorem dX0_init_54 : decode cX0_init 54 = .ok (.putfield 30, 3) := by decide +kernel
theorem dX0_init_57 : decode cX0_init 57 = .ok (.aload_n 0, 1) := by decide +kernel
theorem dX0_init_58 : decode cX0_init 58 = .ok (.iconst 0, 1) := by decide +kernel
theorem dX0_init_59 : decode cX0_init 59 = .ok (.putfield 33, 3) := by decide +kernel
theorem dX0_init_62 : decode cX0_init 62 = .ok (.aload_n 0, 1) := by decide +kernel
theorem dX0_init_63 : decode cX0_init 63 = .ok (.iconst 0, 1) := by decide +kernel
theorem dX0_init_64 : decode cX0_init 64 = .ok (.putfield 37, 3) := by decide +kernel
theorem dX0_init_67 : decode cX0_init 67 = .ok (.aload_n 0, 1) := by decide +kernel
theorem dX0_init_68 : decode cX0_init 68 = .ok (.iconst 0, 1) := by decide +kernel
theorem dX0_init_69 : decode cX0_init 69 = .ok (.putfield 40, 3) := by decide +kernel
theorem dX0_init_72 : decode cX0_init 72 = .ok (.return_, 1) := by decide +kernel
theorem dX0_clear_0 : decode cX0_clear 0 = .ok (.aload_n 0, 1) := by decide +kernel
theorem dX0_clear_1 : decode cX0_clear 1 = .ok (.sipush 1440, 3) := by decide +kernel
theorem dX0_clear_4 : decode cX0_clear 4 = .ok (.putfield 33, 3) := by decide +kernel
theorem dX0_clear_7 : decode cX0_clear 7 = .ok (.aload_n 0, 1) := by decide +kernel
theorem dX0_clear_8 : decode cX0_clear 8 = .ok (.iconst 0, 1) := by decide +kernel
theorem dX0_clear_9 : decode cX0_clear 9 = .ok (.putfield 37, 3) := by decide +kernel
theorem dX0_clear_12 : decode cX0_clear 12 = .ok (.aload_n 0, 1) := by decide +kernel
theorem dX0_clear_13 : decode cX0_clear 13 = .ok (.iconst 0, 1) := by decide +kernel
theorem dX0_clear_14 : decode cX0_clear 14 = .ok (.putfield 40, 3) := by decide +kernel
theorem dX0_clear_17 : decode cX0_clear 17 = .ok (.aload_n 0, 1) := by decide +kernel
theorem dX0_clear_18 : decode cX0_clear 18 = .ok (.getfield 18, 3) := by decide +kernel
theorem dX0_clear_21 : decode cX0_clear 21 = .ok (.bipush 10, 2) := by decide +kernel
theorem dX0_clear_23 : decode cX0_clear 23 = .ok (.invokestatic 43, 3) := by decide +kernel
theorem dX0_clear_26 : decode cX0_clear 26 = .ok (.return_, 1) := by decide +kernel
theorem dX0_accepts_0 : decode cX0_accepts 0 = .ok (.iload_n 1, 1) := by decide +kernel
theorem dX0_accepts_1 : decode cX0_accepts 1 = .ok (.lookupswitch 74 #[(103, 43), (114, 56), (116, 49), (119, 65)], 43) := by decide +kernel
theorem dX0_accepts_44 : decode cX0_accepts 44 = .ok (.aload_n 0, 1) := by decide +kernel
theorem dX0_accepts_45 : decode cX0_accepts 45 = .ok (.iload_n 2, 1) := by decide +kernel
theorem dX0_accepts_46 : decode cX0_accepts 46 = .ok (.invokevirtual 49, 3) := by decide +kernel
theorem dX0_accepts_49 : decode cX0_accepts 49 = .ok (.ireturn, 1) := by decide +kernel
theorem dX0_accepts_50 : decode cX0_accepts 50 = .ok (.aload_n 0, 1) := by decide +kernel
theorem dX0_accepts_51 : decode cX0_accepts 51 = .ok (.iload_n 2, 1) := by decide +kernel
theorem dX0_accepts_52 : decode cX0_accepts 52 = .ok (.iload_n 3, 1) := by decide +kernel
theorem dX0_accepts_53 : decode cX0_accepts 53 = .ok (.invokevirtual 53, 3) := by decide +kernel
theorem dX0_accepts_56 : decode cX0_accepts 56 = .ok (.ireturn, 1) := by decide +kernel
theorem dX0_accepts_57 : decode cX0_accepts 57 = .ok (.aload_n 0, 1) := by decide +kernel
theorem dX0_accepts_58 : decode cX0_accepts 58 = .ok (.iload_n 2, 1) := by decide +kernel
theorem dX0_accepts_59 : decode cX0_accepts 59 = .ok (.iload_n 3, 1) := by decide +kernel
theorem dX0_accepts_60 : decode cX0_accepts 60 = .ok (.iload 4, 2) := by decide +kernel
theorem dX0_accepts_62 : decode cX0_accepts 62 = .ok (.invokevirtual 57, 3) := by decide +kernel
theorem dX0_accepts_65 : decode cX0_accepts 65 = .ok (.ireturn, 1) := by decide +kernel
theorem dX0_accepts_66 : decode cX0_accepts 66 = .ok (.aload_n 0, 1) := by decide +kernel
theorem dX0_accepts_67 : decode cX0_accepts 67 = .ok (.iload_n 2, 1) := by decide +kernel
theorem dX0_accepts_68 : decode cX0_accepts 68 = .ok (.iload_n 3, 1) := by decide +kernel
theorem dX0_accepts_69 : decode cX0_accepts 69 = .ok (.iload 4, 2) := by decide +kernel
theorem dX0_accepts_71 : decode cX0_accepts 71 = .ok (.invokevirtual 61, 3) := by decide +kernel
theorem dX0_accepts_74 : decode cX0_accepts 74 = .ok (.ireturn, 1) := by decide +kernel
theorem dX0_accepts_75 : decode cX0_accepts 75 = .ok (.iconst 0, 1) := by decide +kernel
theorem dX0_accepts_76 : decode cX0_accepts 76 = .ok (.ireturn, 1) := by decide +kernel
theorem dX0_acceptsGirth_0 : decode cX0_acceptsGirth 0 = .ok (.iload_n 1, 1) := by decide +kernel
theorem dX0_acceptsGirth_1 : decode cX0_acceptsGirth 1 = .ok (.iconst 1, 1) := by decide +kernel
theorem dX0_acceptsGirth_2 : decode cX0_acceptsGirth 2 = .ok (.bipush 99, 2) := by decide +kernel
theorem dX0_acceptsGirth_4 : decode cX0_acceptsGirth 4 = .ok (.invokestatic 64, 3) := by decide +kernel
theorem dX0_acceptsGirth_7 : decode cX0_acceptsGirth 7 = .ok (.ifCond .ne 5, 3) := by decide +kernel
theorem dX0_acceptsGirth_10 : decode cX0_acceptsGirth 10 = .ok (.iconst 0, 1) := by decide +kernel
theorem dX0_acceptsGirth_11 : decode cX0_acceptsGirth 11 = .ok (.ireturn, 1) := by decide +kernel
theorem dX0_acceptsGirth_12 : decode cX0_acceptsGirth 12 = .ok (.aload_n 0, 1) := by decide +kernel
theorem dX0_acceptsGirth_13 : decode cX0_acceptsGirth 13 = .ok (.bipush 40, 2) := by decide +kernel
theorem dX0_acceptsGirth_15 : decode cX0_acceptsGirth 15 = .ok (.iload_n 1, 1) := by decide +kernel
theorem dX0_acceptsGirth_16 : decode cX0_acceptsGirth 16 = .ok (.imul, 1) := by decide +kernel
theorem dX0_acceptsGirth_17 : decode cX0_acceptsGirth 17 = .ok (.putfield 33, 3) := by decide +kernel
theorem dX0_acceptsGirth_20 : decode cX0_acceptsGirth 20 = .ok (.iconst 1, 1) := by decide +kernel
theorem dX0_acceptsGirth_21 : decode cX0_acceptsGirth 21 = .ok (.ireturn, 1) := by decide +kernel
theorem dX0_acceptsTown_0 : decode cX0_acceptsTown 0 = .ok (.aload_n 0, 1) := by decide +kernel
theorem dX0_acceptsTown_1 : decode cX0_acceptsTown 1 = .ok (.getfield 37, 3) := by decide +kernel
theorem dX0_acceptsTown_4 : decode cX0_acceptsTown 4 = .ok (.bipush 6, 2) := by decide +kernel
theorem dX0_acceptsTown_6 : decode cX0_acceptsTown 6 = .ok (.if_icmp .ge 23, 3) := by decide +kernel
theorem dX0_acceptsTown_9 : decode cX0_acceptsTown 9 = .ok (.iload_n 1, 1) := by decide +kernel
theorem dX0_acceptsTown_10 : decode cX0_acceptsTown 10 = .ok (.iconst 0, 1) := by decide +kernel
theorem dX0_acceptsTown_11 : decode cX0_acceptsTown 11 = .ok (.bipush 80, 2) := by decide +kernel
theorem dX0_acceptsTown_13 : decode cX0_acceptsTown 13 = .ok (.invokestatic 64, 3) := by decide +kernel
theorem dX0_acceptsTown_16 : decode cX0_acceptsTown 16 = .ok (.ifCond .eq 13, 3) := by decide +kernel
theorem dX0_acceptsTown_19 : decode cX0_acceptsTown 19 = .ok (.iload_n 2, 1) := by decide +kernel
theorem dX0_acceptsTown_20 : decode cX0_acceptsTown 20 = .ok (.iconst 0, 1) := by decide +kernel
theorem dX0_acceptsTown_21 : decode cX0_acceptsTown 21 = .ok (.bipush 8, 2) := by decide +kernel
theorem dX0_acceptsTown_23 : decode cX0_acceptsTown 23 = .ok (.invokestatic 64, 3) := by decide +kernel
theorem dX0_acceptsTown_26 : decode cX0_acceptsTown 26 = .ok (.ifCond .ne 5, 3) := by decide +kernel
theorem dX0_acceptsTown_29 : decode cX0_acceptsTown 29 = .ok (.iconst 0, 1) := by decide +kernel
theorem dX0_acceptsTown_30 : decode cX0_acceptsTown 30 = .ok (.ireturn, 1) := by decide +kernel
theorem dX0_acceptsTown_31 : decode cX0_acceptsTown 31 = .ok (.aload_n 0, 1) := by decide +kernel
theorem dX0_acceptsTown_32 : decode cX0_acceptsTown 32 = .ok (.getfield 9, 3) := by decide +kernel
theorem dX0_acceptsTown_35 : decode cX0_acceptsTown 35 = .ok (.aload_n 0, 1) := by decide +kernel
theorem dX0_acceptsTown_36 : decode cX0_acceptsTown 36 = .ok (.getfield 37, 3) := by decide +kernel
theorem dX0_acceptsTown_39 : decode cX0_acceptsTown 39 = .ok (.iload_n 1, 1) := by decide +kernel
theorem dX0_acceptsTown_40 : decode cX0_acceptsTown 40 = .ok (.invokestatic 67, 3) := by decide +kernel
theorem dX0_acceptsTown_43 : decode cX0_acceptsTown 43 = .ok (.aload_n 0, 1) := by decide +kernel
theorem dX0_acceptsTown_44 : decode cX0_acceptsTown 44 = .ok (.getfield 15, 3) := by decide +kernel
theorem dX0_acceptsTown_47 : decode cX0_acceptsTown 47 = .ok (.aload_n 0, 1) := by decide +kernel
theorem dX0_acceptsTown_48 : decode cX0_acceptsTown 48 = .ok (.getfield 37, 3) := by decide +kernel
theorem dX0_acceptsTown_51 : decode cX0_acceptsTown 51 = .ok (.iload_n 2, 1) := by decide +kernel
theorem dX0_acceptsTown_52 : decode cX0_acceptsTown 52 = .ok (.iconst 4, 1) := by decide +kernel
theorem dX0_acceptsTown_53 : decode cX0_acceptsTown 53 = .ok (.isub, 1) := by decide +kernel
theorem dX0_acceptsTown_54 : decode cX0_acceptsTown 54 = .ok (.invokestatic 67, 3) := by decide +kernel
theorem dX0_acceptsTown_57 : decode cX0_acceptsTown 57 = .ok (.aload_n 0, 1) := by decide +kernel
theorem dX0_acceptsTown_58 : decode cX0_acceptsTown 58 = .ok (.dup, 1) := by decide +kernel
theorem dX0_acceptsTown_59 : decode cX0_acceptsTown 59 = .ok (.getfield 37, 3) := by decide +kernel
theorem dX0_acceptsTown_62 : decode cX0_acceptsTown 62 = .ok (.iconst 1, 1) := by decide +kernel
theorem dX0_acceptsTown_63 : decode cX0_acceptsTown 63 = .ok (.iadd, 1) := by decide +kernel
theorem dX0_acceptsTown_64 : decode cX0_acceptsTown 64 = .ok (.putfield 37, 3) := by decide +kernel
theorem dX0_acceptsTown_67 : decode cX0_acceptsTown 67 = .ok (.iconst 1, 1) := by decide +kernel
theorem dX0_acceptsTown_68 : decode cX0_acceptsTown 68 = .ok (.ireturn, 1) := by decide +kernel
theorem dX0_acceptsRoad_0 : decode cX0_acceptsRoad 0 = .ok (.aload_n 0, 1) := by decide +kernel
theorem dX0_acceptsRoad_1 : decode cX0_acceptsRoad 1 = .ok (.iload_n 1, 1) := by decide +kernel
theorem dX0_acceptsRoad_2 : decode cX0_acceptsRoad 2 = .ok (.iload_n 2, 1) := by decide +kernel
theorem dX0_acceptsRoad_3 : decode cX0_acceptsRoad 3 = .ok (.invokevirtual 71, 3) := by decide +kernel
theorem dX0_acceptsRoad_6 : decode cX0_acceptsRoad 6 = .ok (.ifCond .eq 13, 3) := by decide +kernel
theorem dX0_acceptsRoad_9 : decode cX0_acceptsRoad 9 = .ok (.iload_n 3, 1) := by decide +kernel
theorem dX0_acceptsRoad_10 : decode cX0_acceptsRoad 10 = .ok (.iconst 0, 1) := by decide +kernel
theorem dX0_acceptsRoad_11 : decode cX0_acceptsRoad 11 = .ok (.bipush 50, 2) := by decide +kernel
theorem dX0_acceptsRoad_13 : decode cX0_acceptsRoad 13 = .ok (.invokestatic 64, 3) := by decide +kernel
theorem dX0_acceptsRoad_16 : decode cX0_acceptsRoad 16 = .ok (.ifCond .ne 5, 3) := by decide +kernel
theorem dX0_acceptsRoad_19 : decode cX0_acceptsRoad 19 = .ok (.iconst 0, 1) := by decide +kernel
theorem dX0_acceptsRoad_20 : decode cX0_acceptsRoad 20 = .ok (.ireturn, 1) := by decide +kernel
theorem dX0_acceptsRoad_21 : decode cX0_acceptsRoad 21 = .ok (.aload_n 0, 1) := by decide +kernel
theorem dX0_acceptsRoad_22 : decode cX0_acceptsRoad 22 = .ok (.getfield 18, 3) := by decide +kernel
theorem dX0_acceptsRoad_25 : decode cX0_acceptsRoad 25 = .ok (.iload_n 1, 1) := by decide +kernel
theorem dX0_acceptsRoad_26 : decode cX0_acceptsRoad 26 = .ok (.bipush 6, 2) := by decide +kernel
theorem dX0_acceptsRoad_28 : decode cX0_acceptsRoad 28 = .ok (.imul, 1) := by decide +kernel
theorem dX0_acceptsRoad_29 : decode cX0_acceptsRoad 29 = .ok (.iload_n 2, 1) := by decide +kernel
theorem dX0_acceptsRoad_30 : decode cX0_acceptsRoad 30 = .ok (.iadd, 1) := by decide +kernel
theorem dX0_acceptsRoad_31 : decode cX0_acceptsRoad 31 = .ok (.iload_n 3, 1) := by decide +kernel
theorem dX0_acceptsRoad_32 : decode cX0_acceptsRoad 32 = .ok (.invokestatic 67, 3) := by decide +kernel
theorem dX0_acceptsRoad_35 : decode cX0_acceptsRoad 35 = .ok (.aload_n 0, 1) := by decide +kernel
theorem dX0_acceptsRoad_36 : decode cX0_acceptsRoad 36 = .ok (.getfield 18, 3) := by decide +kernel
theorem dX0_acceptsRoad_39 : decode cX0_acceptsRoad 39 = .ok (.iload_n 2, 1) := by decide +kernel
theorem dX0_acceptsRoad_40 : decode cX0_acceptsRoad 40 = .ok (.bipush 6, 2) := by decide +kernel
theorem dX0_acceptsRoad_42 : decode cX0_acceptsRoad 42 = .ok (.imul, 1) := by decide +kernel
theorem dX0_acceptsRoad_43 : decode cX0_acceptsRoad 43 = .ok (.iload_n 1, 1) := by decide +kernel
theorem dX0_acceptsRoad_44 : decode cX0_acceptsRoad 44 = .ok (.iadd, 1) := by decide +kernel
theorem dX0_acceptsRoad_45 : decode cX0_acceptsRoad 45 = .ok (.iload_n 3, 1) := by decide +kernel
theorem dX0_acceptsRoad_46 : decode cX0_acceptsRoad 46 = .ok (.invokestatic 67, 3) := by decide +kernel
theorem dX0_acceptsRoad_49 : decode cX0_acceptsRoad 49 = .ok (.iconst 1, 1) := by decide +kernel
theorem dX0_acceptsRoad_50 : decode cX0_acceptsRoad 50 = .ok (.ireturn, 1) := by decide +kernel
theorem dX0_acceptsWalker_0 : decode cX0_acceptsWalker 0 = .ok (.aload_n 0, 1) := by decide +kernel
theorem dX0_acceptsWalker_1 : decode cX0_acceptsWalker 1 = .ok (.getfield 40, 3) := by decide +kernel
theorem dX0_acceptsWalker_4 : decode cX0_acceptsWalker 4 = .ok (.iconst 4, 1) := by decide +kernel
theorem dX0_acceptsWalker_5 : decode cX0_acceptsWalker 5 = .ok (.if_icmp .ge 32, 3) := by decide +kernel
theorem dX0_acceptsWalker_8 : decode cX0_acceptsWalker 8 = .ok (.iload_n 1, 1) := by decide +kernel
theorem dX0_acceptsWalker_9 : decode cX0_acceptsWalker 9 = .ok (.iconst 0, 1) := by decide +kernel
theorem dX0_acceptsWalker_10 : decode cX0_acceptsWalker 10 = .ok (.iconst 3, 1) := by decide +kernel
theorem dX0_acceptsWalker_11 : decode cX0_acceptsWalker 11 = .ok (.invokestatic 64, 3) := by decide +kernel
theorem dX0_acceptsWalker_14 : decode cX0_acceptsWalker 14 = .ok (.ifCond .eq 23, 3) := by decide +kernel
theorem dX0_acceptsWalker_17 : decode cX0_acceptsWalker 17 = .ok (.iload_n 2, 1) := by decide +kernel
theorem dX0_acceptsWalker_18 : decode cX0_acceptsWalker 18 = .ok (.iconst 1, 1) := by decide +kernel
theorem dX0_acceptsWalker_19 : decode cX0_acceptsWalker 19 = .ok (.bipush 40, 2) := by decide +kernel
theorem dX0_acceptsWalker_21 : decode cX0_acceptsWalker 21 = .ok (.invokestatic 64, 3) := by decide +kernel
theorem dX0_acceptsWalker_24 : decode cX0_acceptsWalker 24 = .ok (.ifCond .eq 13, 3) := by decide +kernel
theorem dX0_acceptsWalker_27 : decode cX0_acceptsWalker 27 = .ok (.iload_n 3, 1) := by decide +kernel
theorem dX0_acceptsWalker_28 : decode cX0_acceptsWalker 28 = .ok (.iconst 1, 1) := by decide +kernel
theorem dX0_acceptsWalker_29 : decode cX0_acceptsWalker 29 = .ok (.bipush 9, 2) := by decide +kernel
theorem dX0_acceptsWalker_31 : decode cX0_acceptsWalker 31 = .ok (.invokestatic 64, 3) := by decide +kernel
theorem dX0_acceptsWalker_34 : decode cX0_acceptsWalker 34 = .ok (.ifCond .ne 5, 3) := by decide +kernel
theorem dX0_acceptsWalker_37 : decode cX0_acceptsWalker 37 = .ok (.iconst 0, 1) := by decide +kernel
theorem dX0_acceptsWalker_38 : decode cX0_acceptsWalker 38 = .ok (.ireturn, 1) := by decide +kernel
theorem dX0_acceptsWalker_39 : decode cX0_acceptsWalker 39 = .ok (.aload_n 0, 1) := by decide +kernel
theorem dX0_acceptsWalker_40 : decode cX0_acceptsWalker 40 = .ok (.getfield 24, 3) := by decide +kernel
theorem dX0_acceptsWalker_43 : decode cX0_acceptsWalker 43 = .ok (.aload_n 0, 1) := by decide +kernel
theorem dX0_acceptsWalker_44 : decode cX0_acceptsWalker 44 = .ok (.getfield 40, 3) := by decide +kernel
theorem dX0_acceptsWalker_47 : decode cX0_acceptsWalker 47 = .ok (.iload_n 1, 1) := by decide +kernel
theorem dX0_acceptsWalker_48 : decode cX0_acceptsWalker 48 = .ok (.invokestatic 67, 3) := by decide +kernel
theorem dX0_acceptsWalker_51 : decode cX0_acceptsWalker 51 = .ok (.aload_n 0, 1) := by decide +kernel
theorem dX0_acceptsWalker_52 : decode cX0_acceptsWalker 52 = .ok (.getfield 27, 3) := by decide +kernel
theorem dX0_acceptsWalker_55 : decode cX0_acceptsWalker 55 = .ok (.aload_n 0, 1) := by decide +kernel
theorem dX0_acceptsWalker_56 : decode cX0_acceptsWalker 56 = .ok (.getfield 40, 3) := by decide +kernel
theorem dX0_acceptsWalker_59 : decode cX0_acceptsWalker 59 = .ok (.iload_n 2, 1) := by decide +kernel
theorem dX0_acceptsWalker_60 : decode cX0_acceptsWalker 60 = .ok (.invokestatic 67, 3) := by decide +kernel
theorem dX0_acceptsWalker_63 : decode cX0_acceptsWalker 63 = .ok (.aload_n 0, 1) := by decide +kernel
theorem dX0_acceptsWalker_64 : decode cX0_acceptsWalker 64 = .ok (.getfield 30, 3) := by decide +kernel
theorem dX0_acceptsWalker_67 : decode cX0_acceptsWalker 67 = .ok (.aload_n 0, 1) := by decide +kernel
theorem dX0_acceptsWalker_68 : decode cX0_acceptsWalker 68 = .ok (.getfield 40, 3) := by decide +kernel
theorem dX0_acceptsWalker_71 : decode cX0_acceptsWalker 71 = .ok (.iload_n 3, 1) := by decide +kernel
theorem dX0_acceptsWalker_72 : decode cX0_acceptsWalker 72 = .ok (.invokestatic 67, 3) := by decide +kernel
theorem dX0_acceptsWalker_75 : decode cX0_acceptsWalker 75 = .ok (.aload_n 0, 1) := by decide +kernel
theorem dX0_acceptsWalker_76 : decode cX0_acceptsWalker 76 = .ok (.dup, 1) := by decide +kernel
theorem dX0_acceptsWalker_77 : decode cX0_acceptsWalker 77 = .ok (.getfield 40, 3) := by decide +kernel
theorem dX0_acceptsWalker_80 : decode cX0_acceptsWalker 80 = .ok (.iconst 1, 1) := by decide +kernel
theorem dX0_acceptsWalker_81 : decode cX0_acceptsWalker 81 = .ok (.iadd, 1) := by decide +kernel
theorem dX0_acceptsWalker_82 : decode cX0_acceptsWalker 82 = .ok (.putfield 40, 3) := by decide +kernel
theorem dX0_acceptsWalker_85 : decode cX0_acceptsWalker 85 = .ok (.iconst 1, 1) := by decide +kernel
theorem dX0_acceptsWalker_86 : decode cX0_acceptsWalker 86 = .ok (.ireturn, 1) := by decide +kernel
theorem dX0_measureRoads_0 : decode cX0_measureRoads 0 = .ok (.iconst 0, 1) := by decide +kernel
theorem dX0_measureRoads_1 : decode cX0_measureRoads 1 = .ok (.istore_n 1, 1) := by decide +kernel
theorem dX0_measureRoads_2 : decode cX0_measureRoads 2 = .ok (.iload_n 1, 1) := by decide +kernel
theorem dX0_measureRoads_3 : decode cX0_measureRoads 3 = .ok (.aload_n 0, 1) := by decide +kernel
theorem dX0_measureRoads_4 : decode cX0_measureRoads 4 = .ok (.getfield 37, 3) := by decide +kernel
theorem dX0_measureRoads_7 : decode cX0_measureRoads 7 = .ok (.if_icmp .ge 65, 3) := by decide +kernel
theorem dX0_measureRoads_10 : decode cX0_measureRoads 10 = .ok (.iconst 0, 1) := by decide +kernel
theorem dX0_measureRoads_11 : decode cX0_measureRoads 11 = .ok (.istore_n 2, 1) := by decide +kernel
theorem dX0_measureRoads_12 : decode cX0_measureRoads 12 = .ok (.iload_n 2, 1) := by decide +kernel
theorem dX0_measureRoads_13 : decode cX0_measureRoads 13 = .ok (.aload_n 0, 1) := by decide +kernel
theorem dX0_measureRoads_14 : decode cX0_measureRoads 14 = .ok (.getfield 37, 3) := by decide +kernel
theorem dX0_measureRoads_17 : decode cX0_measureRoads 17 = .ok (.if_icmp .ge 49, 3) := by decide +kernel
theorem dX0_measureRoads_20 : decode cX0_measureRoads 20 = .ok (.iload_n 1, 1) := by decide +kernel
theorem dX0_measureRoads_21 : decode cX0_measureRoads 21 = .ok (.bipush 6, 2) := by decide +kernel
theorem dX0_measureRoads_23 : decode cX0_measureRoads 23 = .ok (.imul, 1) := by decide +kernel
theorem dX0_measureRoads_24 : decode cX0_measureRoads 24 = .ok (.iload_n 2, 1) := by decide +kernel
theorem dX0_measureRoads_25 : decode cX0_measureRoads 25 = .ok (.iadd, 1) := by decide +kernel
theorem dX0_measureRoads_26 : decode cX0_measureRoads 26 = .ok (.istore_n 3, 1) := by decide +kernel
theorem dX0_measureRoads_27 : decode cX0_measureRoads 27 = .ok (.aload_n 0, 1) := by decide +kernel
theorem dX0_measureRoads_28 : decode cX0_measureRoads 28 = .ok (.getfield 21, 3) := by decide +kernel
theorem dX0_measureRoads_31 : decode cX0_measureRoads 31 = .ok (.iload_n 3, 1) := by decide +kernel
theorem dX0_measureRoads_32 : decode cX0_measureRoads 32 = .ok (.aload_n 0, 1) := by decide +kernel
theorem dX0_measureRoads_33 : decode cX0_measureRoads 33 = .ok (.iload_n 1, 1) := by decide +kernel
theorem dX0_measureRoads_34 : decode cX0_measureRoads 34 = .ok (.iload_n 2, 1) := by decide +kernel
theorem dX0_measureRoads_35 : decode cX0_measureRoads 35 = .ok (.invokevirtual 74, 3) := by decide +kernel
theorem dX0_measureRoads_38 : decode cX0_measureRoads 38 = .ok (.i2l, 1) := by decide +kernel
theorem dX0_measureRoads_39 : decode cX0_measureRoads 39 = .ok (.bipush 100, 2) := by decide +kernel
theorem dX0_measureRoads_41 : decode cX0_measureRoads 41 = .ok (.aload_n 0, 1) := by decide +kernel
theorem dX0_measureRoads_42 : decode cX0_measureRoads 42 = .ok (.getfield 18, 3) := by decide +kernel
theorem dX0_measureRoads_45 : decode cX0_measureRoads 45 = .ok (.iload_n 3, 1) := by decide +kernel
theorem dX0_measureRoads_46 : decode cX0_measureRoads 46 = .ok (.invokestatic 78, 3) := by decide +kernel
theorem dX0_measureRoads_49 : decode cX0_measureRoads 49 = .ok (.iadd, 1) := by decide +kernel
theorem dX0_measureRoads_50 : decode cX0_measureRoads 50 = .ok (.i2l, 1) := by decide +kernel
theorem dX0_measureRoads_51 : decode cX0_measureRoads 51 = .ok (.lmul, 1) := by decide +kernel
theorem dX0_measureRoads_52 : decode cX0_measureRoads 52 = .ok (.bipush 100, 2) := by decide +kernel
theorem dX0_measureRoads_54 : decode cX0_measureRoads 54 = .ok (.invokestatic 82, 3) := by decide +kernel
theorem dX0_measureRoads_57 : decode cX0_measureRoads 57 = .ok (.invokestatic 67, 3) := by decide +kernel
theorem dX0_measureRoads_60 : decode cX0_measureRoads 60 = .ok (.iinc 2 1, 3) := by decide +kernel
theorem dX0_measureRoads_63 : decode cX0_measureRoads 63 = .ok (.goto (-51), 3) := by decide +kernel
theorem dX0_measureRoads_66 : decode cX0_measureRoads 66 = .ok (.iinc 1 1, 3) := by decide +kernel
theorem dX0_measureRoads_69 : decode cX0_measureRoads 69 = .ok (.goto (-67), 3) := by decide +kernel
theorem dX0_measureRoads_72 : decode cX0_measureRoads 72 = .ok (.return_, 1) := by decide +kernel
theorem dX0_isTown_0 : decode cX0_isTown 0 = .ok (.iload_n 1, 1) := by decide +kernel
theorem dX0_isTown_1 : decode cX0_isTown 1 = .ok (.ifCond .lt 15, 3) := by decide +kernel
theorem dX0_isTown_4 : decode cX0_isTown 4 = .ok (.iload_n 1, 1) := by decide +kernel
theorem dX0_isTown_5 : decode cX0_isTown 5 = .ok (.aload_n 0, 1) := by decide +kernel
theorem dX0_isTown_6 : decode cX0_isTown 6 = .ok (.getfield 37, 3) := by decide +kernel
theorem dX0_isTown_9 : decode cX0_isTown 9 = .ok (.if_icmp .ge 7, 3) := by decide +kernel
theorem dX0_isTown_12 : decode cX0_isTown 12 = .ok (.iconst 1, 1) := by decide +kernel
theorem dX0_isTown_13 : decode cX0_isTown 13 = .ok (.goto 4, 3) := by decide +kernel
theorem dX0_isTown_16 : decode cX0_isTown 16 = .ok (.iconst 0, 1) := by decide +kernel
theorem dX0_isTown_17 : decode cX0_isTown 17 = .ok (.ireturn, 1) := by decide +kernel
theorem dX0_areTwoTowns_0 : decode cX0_areTwoTowns 0 = .ok (.aload_n 0, 1) := by decide +kernel
theorem dX0_areTwoTowns_1 : decode cX0_areTwoTowns 1 = .ok (.iload_n 1, 1) := by decide +kernel
theorem dX0_areTwoTowns_2 : decode cX0_areTwoTowns 2 = .ok (.invokevirtual 86, 3) := by decide +kernel
theorem dX0_areTwoTowns_5 : decode cX0_areTwoTowns 5 = .ok (.ifCond .eq 20, 3) := by decide +kernel
theorem dX0_areTwoTowns_8 : decode cX0_areTwoTowns 8 = .ok (.aload_n 0, 1) := by decide +kernel
theorem dX0_areTwoTowns_9 : decode cX0_areTwoTowns 9 = .ok (.iload_n 2, 1) := by decide +kernel
theorem dX0_areTwoTowns_10 : decode cX0_areTwoTowns 10 = .ok (.invokevirtual 86, 3) := by decide +kernel
theorem dX0_areTwoTowns_13 : decode cX0_areTwoTowns 13 = .ok (.ifCond .eq 12, 3) := by decide +kernel
theorem dX0_areTwoTowns_16 : decode cX0_areTwoTowns 16 = .ok (.iload_n 1, 1) := by decide +kernel
theorem dX0_areTwoTowns_17 : decode cX0_areTwoTowns 17 = .ok (.iload_n 2, 1) := by decide +kernel
theorem dX0_areTwoTowns_18 : decode cX0_areTwoTowns 18 = .ok (.if_icmp .eq 7, 3) := by decide +kernel
theorem dX0_areTwoTowns_21 : decode cX0_areTwoTowns 21 = .ok (.iconst 1, 1) := by decide +kernel
theorem dX0_areTwoTowns_22 : decode cX0_areTwoTowns 22 = .ok (.goto 4, 3) := by decide +kernel
theorem dX0_areTwoTowns_25 : decode cX0_areTwoTowns 25 = .ok (.iconst 0, 1) := by decide +kernel
theorem dX0_areTwoTowns_26 : decode cX0_areTwoTowns 26 = .ok (.ireturn, 1) := by decide +kernel
theorem dX0_isWalker_0 : decode cX0_isWalker 0 = .ok (.iload_n 1, 1) := by decide +kernel
theorem dX0_isWalker_1 : decode cX0_isWalker 1 = .ok (.ifCond .lt 15, 3) := by decide +kernel
theorem dX0_isWalker_4 : decode cX0_isWalker 4 = .ok (.iload_n 1, 1) := by decide +kernel
theorem dX0_isWalker_5 : decode cX0_isWalker 5 = .ok (.aload_n 0, 1) := by decide +kernel
theorem dX0_isWalker_6 : decode cX0_isWalker 6 = .ok (.getfield 40, 3) := by decide +kernel
theorem dX0_isWalker_9 : decode cX0_isWalker 9 = .ok (.if_icmp .ge 7, 3) := by decide +kernel
theorem dX0_isWalker_12 : decode cX0_isWalker 12 = .ok (.iconst 1, 1) := by decide +kernel
theorem dX0_isWalker_13 : decode cX0_isWalker 13 = .ok (.goto 4, 3) := by decide +kernel
theorem dX0_isWalker_16 : decode cX0_isWalker 16 = .ok (.iconst 0, 1) := by decide +kernel
theorem dX0_isWalker_17 : decode cX0_isWalker 17 = .ok (.ireturn, 1) := by decide +kernel
theorem dX0_shadow_0 : decode cX0_shadow 0 = .ok (.iconst 0, 1) := by decide +kernel
theorem dX0_shadow_1 : decode cX0_shadow 1 = .ok (.aload_n 0, 1) := by decide +kernel
theorem dX0_shadow_2 : decode cX0_shadow 2 = .ok (.getfield 9, 3) := by decide +kernel
theorem dX0_shadow_5 : decode cX0_shadow 5 = .ok (.iload_n 1, 1) := by decide +kernel
theorem dX0_shadow_6 : decode cX0_shadow 6 = .ok (.invokestatic 78, 3) := by decide +kernel
theorem dX0_shadow_9 : decode cX0_shadow 9 = .ok (.aload_n 0, 1) := by decide +kernel
theorem dX0_shadow_10 : decode cX0_shadow 10 = .ok (.getfield 15, 3) := by decide +kernel
theorem dX0_shadow_13 : decode cX0_shadow 13 = .ok (.iload_n 1, 1) := by decide +kernel
theorem dX0_shadow_14 : decode cX0_shadow 14 = .ok (.invokestatic 78, 3) := by decide +kernel
theorem dX0_shadow_17 : decode cX0_shadow 17 = .ok (.iadd, 1) := by decide +kernel
theorem dX0_shadow_18 : decode cX0_shadow 18 = .ok (.invokestatic 89, 3) := by decide +kernel
theorem dX0_shadow_21 : decode cX0_shadow 21 = .ok (.ireturn, 1) := by decide +kernel
theorem dX0_liesApart_0 : decode cX0_liesApart 0 = .ok (.aload_n 0, 1) := by decide +kernel
theorem dX0_liesApart_1 : decode cX0_liesApart 1 = .ok (.getfield 9, 3) := by decide +kernel
theorem dX0_liesApart_4 : decode cX0_liesApart 4 = .ok (.iload_n 1, 1) := by decide +kernel
theorem dX0_liesApart_5 : decode cX0_liesApart 5 = .ok (.invokestatic 78, 3) := by decide +kernel
theorem dX0_liesApart_8 : decode cX0_liesApart 8 = .ok (.aload_n 0, 1) := by decide +kernel
theorem dX0_liesApart_9 : decode cX0_liesApart 9 = .ok (.getfield 9, 3) := by decide +kernel
theorem dX0_liesApart_12 : decode cX0_liesApart 12 = .ok (.iload_n 2, 1) := by decide +kernel
theorem dX0_liesApart_13 : decode cX0_liesApart 13 = .ok (.invokestatic 78, 3) := by decide +kernel
theorem dX0_liesApart_16 : decode cX0_liesApart 16 = .ok (.isub, 1) := by decide +kernel
theorem dX0_liesApart_17 : decode cX0_liesApart 17 = .ok (.invokestatic 94, 3) := by decide +kernel
theorem dX0_liesApart_20 : decode cX0_liesApart 20 = .ok (.ireturn, 1) := by decide +kernel
theorem dX0_shadowsApart_0 : decode cX0_shadowsApart 0 = .ok (.aload_n 0, 1) := by decide +kernel
theorem dX0_shadowsApart_1 : decode cX0_shadowsApart 1 = .ok (.iload_n 1, 1) := by decide +kernel
theorem dX0_shadowsApart_2 : decode cX0_shadowsApart 2 = .ok (.invokevirtual 98, 3) := by decide +kernel
theorem dX0_shadowsApart_5 : decode cX0_shadowsApart 5 = .ok (.aload_n 0, 1) := by decide +kernel
theorem dX0_shadowsApart_6 : decode cX0_shadowsApart 6 = .ok (.iload_n 2, 1) := by decide +kernel
theorem dX0_shadowsApart_7 : decode cX0_shadowsApart 7 = .ok (.invokevirtual 98, 3) := by decide +kernel
theorem dX0_shadowsApart_10 : decode cX0_shadowsApart 10 = .ok (.isub, 1) := by decide +kernel
theorem dX0_shadowsApart_11 : decode cX0_shadowsApart 11 = .ok (.invokestatic 94, 3) := by decide +kernel
theorem dX0_shadowsApart_14 : decode cX0_shadowsApart 14 = .ok (.ireturn, 1) := by decide +kernel
theorem dX0_straight_0 : decode cX0_straight 0 = .ok (.aload_n 0, 1) := by decide +kernel
theorem dX0_straight_1 : decode cX0_straight 1 = .ok (.getfield 33, 3) := by decide +kernel
theorem dX0_straight_4 : decode cX0_straight 4 = .ok (.i2l, 1) := by decide +kernel
theorem dX0_straight_5 : decode cX0_straight 5 = .ok (.aload_n 0, 1) := by decide +kernel
theorem dX0_straight_6 : decode cX0_straight 6 = .ok (.iload_n 1, 1) := by decide +kernel
theorem dX0_straight_7 : decode cX0_straight 7 = .ok (.iload_n 2, 1) := by decide +kernel
theorem dX0_straight_8 : decode cX0_straight 8 = .ok (.invokevirtual 101, 3) := by decide +kernel
theorem dX0_straight_11 : decode cX0_straight 11 = .ok (.i2l, 1) := by decide +kernel
theorem dX0_straight_12 : decode cX0_straight 12 = .ok (.lmul, 1) := by decide +kernel
theorem dX0_straight_13 : decode cX0_straight 13 = .ok (.sipush 360, 3) := by decide +kernel
theorem dX0_straight_16 : decode cX0_straight 16 = .ok (.invokestatic 82, 3) := by decide +kernel
theorem dX0_straight_19 : decode cX0_straight 19 = .ok (.ireturn, 1) := by decide +kernel
theorem dX0_byRoad_0 : decode cX0_byRoad 0 = .ok (.aload_n 0, 1) := by decide +kernel
theorem dX0_byRoad_1 : decode cX0_byRoad 1 = .ok (.getfield 21, 3) := by decide +kernel
theorem dX0_byRoad_4 : decode cX0_byRoad 4 = .ok (.iload_n 1, 1) := by decide +kernel
theorem dX0_byRoad_5 : decode cX0_byRoad 5 = .ok (.bipush 6, 2) := by decide +kernel
theorem dX0_byRoad_7 : decode cX0_byRoad 7 = .ok (.imul, 1) := by decide +kernel
theorem dX0_byRoad_8 : decode cX0_byRoad 8 = .ok (.iload_n 2, 1) := by decide +kernel
theorem dX0_byRoad_9 : decode cX0_byRoad 9 = .ok (.iadd, 1) := by decide +kernel
theorem dX0_byRoad_10 : decode cX0_byRoad 10 = .ok (.invokestatic 78, 3) := by decide +kernel
theorem dX0_byRoad_13 : decode cX0_byRoad 13 = .ok (.ireturn, 1) := by decide +kernel
theorem dX0_daysOf_0 : decode cX0_daysOf 0 = .ok (.aload_n 0, 1) := by decide +kernel
theorem dX0_daysOf_1 : decode cX0_daysOf 1 = .ok (.iload_n 2, 1) := by decide +kernel
theorem dX0_daysOf_2 : decode cX0_daysOf 2 = .ok (.iload_n 3, 1) := by decide +kernel
theorem dX0_daysOf_3 : decode cX0_daysOf 3 = .ok (.invokevirtual 104, 3) := by decide +kernel
theorem dX0_daysOf_6 : decode cX0_daysOf 6 = .ok (.i2l, 1) := by decide +kernel
theorem dX0_daysOf_7 : decode cX0_daysOf 7 = .ok (.aload_n 0, 1) := by decide +kernel
theorem dX0_daysOf_8 : decode cX0_daysOf 8 = .ok (.getfield 27, 3) := by decide +kernel
theorem dX0_daysOf_11 : decode cX0_daysOf 11 = .ok (.iload_n 1, 1) := by decide +kernel
theorem dX0_daysOf_12 : decode cX0_daysOf 12 = .ok (.invokestatic 78, 3) := by decide +kernel
theorem dX0_daysOf_15 : decode cX0_daysOf 15 = .ok (.invokestatic 82, 3) := by decide +kernel
theorem dX0_daysOf_18 : decode cX0_daysOf 18 = .ok (.iconst 1, 1) := by decide +kernel
theorem dX0_daysOf_19 : decode cX0_daysOf 19 = .ok (.iadd, 1) := by decide +kernel
theorem dX0_daysOf_20 : decode cX0_daysOf 20 = .ok (.ireturn, 1) := by decide +kernel
theorem dX0_girthOf_0 : decode cX0_girthOf 0 = .ok (.iload_n 3, 1) := by decide +kernel
theorem dX0_girthOf_1 : decode cX0_girthOf 1 = .ok (.ifCond .le 26, 3) := by decide +kernel
theorem dX0_girthOf_4 : decode cX0_girthOf 4 = .ok (.ldc2_w 107, 3) := by decide +kernel
theorem dX0_girthOf_7 : decode cX0_girthOf 7 = .ok (.iload_n 2, 1) := by decide +kernel
theorem dX0_girthOf_8 : decode cX0_girthOf 8 = .ok (.i2l, 1) := by decide +kernel
theorem dX0_girthOf_9 : decode cX0_girthOf 9 = .ok (.lmul, 1) := by decide +kernel
theorem dX0_girthOf_10 : decode cX0_girthOf 10 = .ok (.aload_n 0, 1) := by decide +kernel
theorem dX0_girthOf_11 : decode cX0_girthOf 11 = .ok (.getfield 30, 3) := by decide +kernel
theorem dX0_girthOf_14 : decode cX0_girthOf 14 = .ok (.iload_n 1, 1) := by decide +kernel
theorem dX0_girthOf_15 : decode cX0_girthOf 15 = .ok (.invokestatic 78, 3) := by decide +kernel
theorem dX0_girthOf_18 : decode cX0_girthOf 18 = .ok (.i2l, 1) := by decide +kernel
theorem dX0_girthOf_19 : decode cX0_girthOf 19 = .ok (.lmul, 1) := by decide +kernel
theorem dX0_girthOf_20 : decode cX0_girthOf 20 = .ok (.iload_n 3, 1) := by decide +kernel
theorem dX0_girthOf_21 : decode cX0_girthOf 21 = .ok (.invokestatic 82, 3) := by decide +kernel
theorem dX0_girthOf_24 : decode cX0_girthOf 24 = .ok (.goto 5, 3) := by decide +kernel
theorem dX0_girthOf_27 : decode cX0_girthOf 27 = .ok (.bipush (-4), 2) := by decide +kernel
theorem dX0_girthOf_29 : decode cX0_girthOf 29 = .ok (.ireturn, 1) := by decide +kernel
theorem dX0_offGirth_0 : decode cX0_offGirth 0 = .ok (.iload_n 1, 1) := by decide +kernel
theorem dX0_offGirth_1 : decode cX0_offGirth 1 = .ok (.aload_n 0, 1) := by decide +kernel
theorem dX0_offGirth_2 : decode cX0_offGirth 2 = .ok (.getfield 33, 3) := by decide +kernel
theorem dX0_offGirth_5 : decode cX0_offGirth 5 = .ok (.isub, 1) := by decide +kernel
theorem dX0_offGirth_6 : decode cX0_offGirth 6 = .ok (.invokestatic 94, 3) := by decide +kernel
theorem dX0_offGirth_9 : decode cX0_offGirth 9 = .ok (.ireturn, 1) := by decide +kernel
theorem dX0_isNear_0 : decode cX0_isNear 0 = .ok (.iload_n 1, 1) := by decide +kernel
theorem dX0_isNear_1 : decode cX0_isNear 1 = .ok (.bipush (-4), 2) := by decide +kernel
theorem dX0_isNear_3 : decode cX0_isNear 3 = .ok (.if_icmp .eq 29, 3) := by decide +kernel
theorem dX0_isNear_6 : decode cX0_isNear 6 = .ok (.ldc2_w 109, 3) := by decide +kernel
theorem dX0_isNear_9 : decode cX0_isNear 9 = .ok (.aload_n 0, 1) := by decide +kernel
theorem dX0_isNear_10 : decode cX0_isNear 10 = .ok (.iload_n 1, 1) := by decide +kernel
theorem dX0_isNear_11 : decode cX0_isNear 11 = .ok (.invokevirtual 111, 3) := by decide +kernel
theorem dX0_isNear_14 : decode cX0_isNear 14 = .ok (.i2l, 1) := by decide +kernel
theorem dX0_isNear_15 : decode cX0_isNear 15 = .ok (.lmul, 1) := by decide +kernel
theorem dX0_isNear_16 : decode cX0_isNear 16 = .ok (.iload_n 2, 1) := by decide +kernel
theorem dX0_isNear_17 : decode cX0_isNear 17 = .ok (.i2l, 1) := by decide +kernel
theorem dX0_isNear_18 : decode cX0_isNear 18 = .ok (.aload_n 0, 1) := by decide +kernel
theorem dX0_isNear_19 : decode cX0_isNear 19 = .ok (.getfield 33, 3) := by decide +kernel
theorem dX0_isNear_22 : decode cX0_isNear 22 = .ok (.i2l, 1) := by decide +kernel
theorem dX0_isNear_23 : decode cX0_isNear 23 = .ok (.lmul, 1) := by decide +kernel
theorem dX0_isNear_24 : decode cX0_isNear 24 = .ok (.lcmp, 1) := by decide +kernel
theorem dX0_isNear_25 : decode cX0_isNear 25 = .ok (.ifCond .gt 7, 3) := by decide +kernel
theorem dX0_isNear_28 : decode cX0_isNear 28 = .ok (.iconst 1, 1) := by decide +kernel
theorem dX0_isNear_29 : decode cX0_isNear 29 = .ok (.goto 4, 3) := by decide +kernel
theorem dX0_isNear_32 : decode cX0_isNear 32 = .ok (.iconst 0, 1) := by decide +kernel
theorem dX0_isNear_33 : decode cX0_isNear 33 = .ok (.ireturn, 1) := by decide +kernel
theorem dX1_init_0 : decode cX1_init 0 = .ok (.aload_n 0, 1) := by decide +kernel
theorem dX1_init_1 : decode cX1_init 1 = .ok (.invokespecial 3, 3) := by decide +kernel
theorem dX1_init_4 : decode cX1_init 4 = .ok (.aload_n 0, 1) := by decide +kernel
theorem dX1_init_5 : decode cX1_init 5 = .ok (.bipush 9, 2) := by decide +kernel
theorem dX1_init_7 : decode cX1_init 7 = .ok (.newarray .int, 2) := by decide +kernel
theorem dX1_init_9 : decode cX1_init 9 = .ok (.putfield 9, 3) := by decide +kernel
theorem dX1_init_12 : decode cX1_init 12 = .ok (.aload_n 0, 1) := by decide +kernel
theorem dX1_init_13 : decode cX1_init 13 = .ok (.bipush 9, 2) := by decide +kernel
theorem dX1_init_15 : decode cX1_init 15 = .ok (.newarray .int, 2) := by decide +kernel
theorem dX1_init_17 : decode cX1_init 17 = .ok (.putfield 15, 3) := by decide +kernel
theorem dX1_init_20 : decode cX1_init 20 = .ok (.aload_n 0, 1) := by decide +kernel
theorem dX1_init_21 : decode cX1_init 21 = .ok (.bipush 9, 2) := by decide +kernel
theorem dX1_init_23 : decode cX1_init 23 = .ok (.newarray .int, 2) := by decide +kernel
theorem dX1_init_25 : decode cX1_init 25 = .ok (.putfield 18, 3) := by decide +kernel
theorem dX1_init_28 : decode cX1_init 28 = .ok (.aload_n 0, 1) := by decide +kernel
theorem dX1_init_29 : decode cX1_init 29 = .ok (.bipush 9, 2) := by decide +kernel
theorem dX1_init_31 : decode cX1_init 31 = .ok (.newarray .int, 2) := by decide +kernel
theorem dX1_init_33 : decode cX1_init 33 = .ok (.putfield 21, 3) := by decide +kernel
theorem dX1_init_36 : decode cX1_init 36 = .ok (.aload_n 0, 1) := by decide +kernel
theorem dX1_init_37 : decode cX1_init 37 = .ok (.iconst 0, 1) := by decide +kernel
theorem dX1_init_38 : decode cX1_init 38 = .ok (.putfield 24, 3) := by decide +kernel
theorem dX1_init_41 : decode cX1_init 41 = .ok (.aload_n 0, 1) := by decide +kernel
theorem dX1_init_42 : decode cX1_init 42 = .ok (.iconst 0, 1) := by decide +kernel
theorem dX1_init_43 : decode cX1_init 43 = .ok (.putfield 28, 3) := by decide +kernel
theorem dX1_init_46 : decode cX1_init 46 = .ok (.return_, 1) := by decide +kernel
theorem dX1_clear_0 : decode cX1_clear 0 = .ok (.aload_n 0, 1) := by decide +kernel
theorem dX1_clear_1 : decode cX1_clear 1 = .ok (.iconst 0, 1) := by decide +kernel
theorem dX1_clear_2 : decode cX1_clear 2 = .ok (.putfield 24, 3) := by decide +kernel
theorem dX1_clear_5 : decode cX1_clear 5 = .ok (.aload_n 0, 1) := by decide +kernel
theorem dX1_clear_6 : decode cX1_clear 6 = .ok (.iconst 0, 1) := by decide +kernel
theorem dX1_clear_7 : decode cX1_clear 7 = .ok (.putfield 28, 3) := by decide +kernel
theorem dX1_clear_10 : decode cX1_clear 10 = .ok (.return_, 1) := by decide +kernel
theorem dX1_has_0 : decode cX1_has 0 = .ok (.iload_n 1, 1) := by decide +kernel
theorem dX1_has_1 : decode cX1_has 1 = .ok (.ifCond .lt 15, 3) := by decide +kernel
theorem dX1_has_4 : decode cX1_has 4 = .ok (.iload_n 1, 1) := by decide +kernel
theorem dX1_has_5 : decode cX1_has 5 = .ok (.aload_n 0, 1) := by decide +kernel
theorem dX1_has_6 : decode cX1_has 6 = .ok (.getfield 24, 3) := by decide +kernel
theorem dX1_has_9 : decode cX1_has 9 = .ok (.if_icmp .ge 7, 3) := by decide +kernel
theorem dX1_has_12 : decode cX1_has 12 = .ok (.iconst 1, 1) := by decide +kernel
theorem dX1_has_13 : decode cX1_has 13 = .ok (.goto 4, 3) := by decide +kernel
theorem dX1_has_16 : decode cX1_has 16 = .ok (.iconst 0, 1) := by decide +kernel
theorem dX1_has_17 : decode cX1_has 17 = .ok (.ireturn, 1) := by decide +kernel
theorem dX1_add_0 : decode cX1_add 0 = .ok (.aload_n 0, 1) := by decide +kernel
theorem dX1_add_1 : decode cX1_add 1 = .ok (.aload_n 0, 1) := by decide +kernel
theorem dX1_add_2 : decode cX1_add 2 = .ok (.getfield 24, 3) := by decide +kernel
theorem dX1_add_5 : decode cX1_add 5 = .ok (.iload_n 1, 1) := by decide +kernel
theorem dX1_add_6 : decode cX1_add 6 = .ok (.iload_n 2, 1) := by decide +kernel
theorem dX1_add_7 : decode cX1_add 7 = .ok (.iload_n 3, 1) := by decide +kernel
theorem dX1_add_8 : decode cX1_add 8 = .ok (.iload 4, 2) := by decide +kernel
theorem dX1_add_10 : decode cX1_add 10 = .ok (.invokevirtual 31, 3) := by decide +kernel
theorem dX1_add_13 : decode cX1_add 13 = .ok (.return_, 1) := by decide +kernel
theorem dX1_insertAt_0 : decode cX1_insertAt 0 = .ok (.iload_n 1, 1) := by decide +kernel
theorem dX1_insertAt_1 : decode cX1_insertAt 1 = .ok (.ifCond .lt 20, 3) := by decide +kernel
theorem dX1_insertAt_4 : decode cX1_insertAt 4 = .ok (.iload_n 1, 1) := by decide +kernel
theorem dX1_insertAt_5 : decode cX1_insertAt 5 = .ok (.aload_n 0, 1) := by decide +kernel
theorem dX1_insertAt_6 : decode cX1_insertAt 6 = .ok (.getfield 24, 3) := by decide +kernel
theorem dX1_insertAt_9 : decode cX1_insertAt 9 = .ok (.if_icmp .gt 12, 3) := by decide +kernel
theorem dX1_insertAt_12 : decode cX1_insertAt 12 = .ok (.aload_n 0, 1) := by decide +kernel
theorem dX1_insertAt_13 : decode cX1_insertAt 13 = .ok (.getfield 24, 3) := by decide +kernel
theorem dX1_insertAt_16 : decode cX1_insertAt 16 = .ok (.bipush 9, 2) := by decide +kernel
theorem dX1_insertAt_18 : decode cX1_insertAt 18 = .ok (.if_icmp .lt 4, 3) := by decide +kernel
theorem dX1_insertAt_21 : decode cX1_insertAt 21 = .ok (.return_, 1) := by decide +kernel
theorem dX1_insertAt_22 : decode cX1_insertAt 22 = .ok (.aload_n 0, 1) := by decide +kernel
theorem dX1_insertAt_23 : decode cX1_insertAt 23 = .ok (.getfield 9, 3) := by decide +kernel
theorem dX1_insertAt_26 : decode cX1_insertAt 26 = .ok (.iload_n 1, 1) := by decide +kernel
theorem dX1_insertAt_27 : decode cX1_insertAt 27 = .ok (.aload_n 0, 1) := by decide +kernel
theorem dX1_insertAt_28 : decode cX1_insertAt 28 = .ok (.getfield 24, 3) := by decide +kernel
theorem dX1_insertAt_31 : decode cX1_insertAt 31 = .ok (.invokestatic 35, 3) := by decide +kernel
theorem dX1_insertAt_34 : decode cX1_insertAt 34 = .ok (.aload_n 0, 1) := by decide +kernel
theorem dX1_insertAt_35 : decode cX1_insertAt 35 = .ok (.getfield 15, 3) := by decide +kernel
theorem dX1_insertAt_38 : decode cX1_insertAt 38 = .ok (.iload_n 1, 1) := by decide +kernel
theorem dX1_insertAt_39 : decode cX1_insertAt 39 = .ok (.aload_n 0, 1) := by decide +kernel
theorem dX1_insertAt_40 : decode cX1_insertAt 40 = .ok (.getfield 24, 3) := by decide +kernel
theorem dX1_insertAt_43 : decode cX1_insertAt 43 = .ok (.invokestatic 35, 3) := by decide +kernel
theorem dX1_insertAt_46 : decode cX1_insertAt 46 = .ok (.aload_n 0, 1) := by decide +kernel
theorem dX1_insertAt_47 : decode cX1_insertAt 47 = .ok (.getfield 18, 3) := by decide +kernel
theorem dX1_insertAt_50 : decode cX1_insertAt 50 = .ok (.iload_n 1, 1) := by decide +kernel
theorem dX1_insertAt_51 : decode cX1_insertAt 51 = .ok (.aload_n 0, 1) := by decide +kernel
theorem dX1_insertAt_52 : decode cX1_insertAt 52 = .ok (.getfield 24, 3) := by decide +kernel
theorem dX1_insertAt_55 : decode cX1_insertAt 55 = .ok (.invokestatic 35, 3) := by decide +kernel
theorem dX1_insertAt_58 : decode cX1_insertAt 58 = .ok (.aload_n 0, 1) := by decide +kernel
theorem dX1_insertAt_59 : decode cX1_insertAt 59 = .ok (.getfield 21, 3) := by decide +kernel
theorem dX1_insertAt_62 : decode cX1_insertAt 62 = .ok (.iload_n 1, 1) := by decide +kernel
theorem dX1_insertAt_63 : decode cX1_insertAt 63 = .ok (.aload_n 0, 1) := by decide +kernel
theorem dX1_insertAt_64 : decode cX1_insertAt 64 = .ok (.getfield 24, 3) := by decide +kernel
theorem dX1_insertAt_67 : decode cX1_insertAt 67 = .ok (.invokestatic 35, 3) := by decide +kernel
theorem dX1_insertAt_70 : decode cX1_insertAt 70 = .ok (.aload_n 0, 1) := by decide +kernel
theorem dX1_insertAt_71 : decode cX1_insertAt 71 = .ok (.getfield 9, 3) := by decide +kernel
theorem dX1_insertAt_74 : decode cX1_insertAt 74 = .ok (.iload_n 1, 1) := by decide +kernel
theorem dX1_insertAt_75 : decode cX1_insertAt 75 = .ok (.iload_n 2, 1) := by decide +kernel
theorem dX1_insertAt_76 : decode cX1_insertAt 76 = .ok (.invokestatic 39, 3) := by decide +kernel
theorem dX1_insertAt_79 : decode cX1_insertAt 79 = .ok (.aload_n 0, 1) := by decide +kernel
theorem dX1_insertAt_80 : decode cX1_insertAt 80 = .ok (.getfield 15, 3) := by decide +kernel
theorem dX1_insertAt_83 : decode cX1_insertAt 83 = .ok (.iload_n 1, 1) := by decide +kernel
theorem dX1_insertAt_84 : decode cX1_insertAt 84 = .ok (.iload_n 3, 1) := by decide +kernel
theorem dX1_insertAt_85 : decode cX1_insertAt 85 = .ok (.invokestatic 39, 3) := by decide +kernel
theorem dX1_insertAt_88 : decode cX1_insertAt 88 = .ok (.aload_n 0, 1) := by decide +kernel
theorem dX1_insertAt_89 : decode cX1_insertAt 89 = .ok (.getfield 18, 3) := by decide +kernel
theorem dX1_insertAt_92 : decode cX1_insertAt 92 = .ok (.iload_n 1, 1) := by decide +kernel
theorem dX1_insertAt_93 : decode cX1_insertAt 93 = .ok (.iload 4, 2) := by decide +kernel
theorem dX1_insertAt_95 : decode cX1_insertAt 95 = .ok (.invokestatic 39, 3) := by decide +kernel
theorem dX1_insertAt_98 : decode cX1_insertAt 98 = .ok (.aload_n 0, 1) := by decide +kernel
theorem dX1_insertAt_99 : decode cX1_insertAt 99 = .ok (.getfield 21, 3) := by decide +kernel
theorem dX1_insertAt_102 : decode cX1_insertAt 102 = .ok (.iload_n 1, 1) := by decide +kernel
theorem dX1_insertAt_103 : decode cX1_insertAt 103 = .ok (.iload 5, 2) := by decide +kernel
theorem dX1_insertAt_105 : decode cX1_insertAt 105 = .ok (.invokestatic 39, 3) := by decide +kernel
theorem dX1_insertAt_108 : decode cX1_insertAt 108 = .ok (.aload_n 0, 1) := by decide +kernel
theorem dX1_insertAt_109 : decode cX1_insertAt 109 = .ok (.dup, 1) := by decide +kernel
theorem dX1_insertAt_110 : decode cX1_insertAt 110 = .ok (.getfield 24, 3) := by decide +kernel
theorem dX1_insertAt_113 : decode cX1_insertAt 113 = .ok (.iconst 1, 1) := by decide +kernel
theorem dX1_insertAt_114 : decode cX1_insertAt 114 = .ok (.iadd, 1) := by decide +kernel
theorem dX1_insertAt_115 : decode cX1_insertAt 115 = .ok (.putfield 24, 3) := by decide +kernel
theorem dX1_insertAt_118 : decode cX1_insertAt 118 = .ok (.return_, 1) := by decide +kernel
theorem dX1_removeAt_0 : decode cX1_removeAt 0 = .ok (.aload_n 0, 1) := by decide +kernel
theorem dX1_removeAt_1 : decode cX1_removeAt 1 = .ok (.iload_n 1, 1) := by decide +kernel
theorem dX1_removeAt_2 : decode cX1_removeAt 2 = .ok (.invokevirtual 42, 3) := by decide +kernel
theorem dX1_removeAt_5 : decode cX1_removeAt 5 = .ok (.ifCond .ne 4, 3) := by decide +kernel
theorem dX1_removeAt_8 : decode cX1_removeAt 8 = .ok (.return_, 1) := by decide +kernel
theorem dX1_removeAt_9 : decode cX1_removeAt 9 = .ok (.aload_n 0, 1) := by decide +kernel
theorem dX1_removeAt_10 : decode cX1_removeAt 10 = .ok (.getfield 9, 3) := by decide +kernel
theorem dX1_removeAt_13 : decode cX1_removeAt 13 = .ok (.iload_n 1, 1) := by decide +kernel
theorem dX1_removeAt_14 : decode cX1_removeAt 14 = .ok (.aload_n 0, 1) := by decide +kernel
theorem dX1_removeAt_15 : decode cX1_removeAt 15 = .ok (.getfield 24, 3) := by decide +kernel
theorem dX1_removeAt_18 : decode cX1_removeAt 18 = .ok (.invokestatic 46, 3) := by decide +kernel
theorem dX1_removeAt_21 : decode cX1_removeAt 21 = .ok (.aload_n 0, 1) := by decide +kernel
theorem dX1_removeAt_22 : decode cX1_removeAt 22 = .ok (.getfield 15, 3) := by decide +kernel
theorem dX1_removeAt_25 : decode cX1_removeAt 25 = .ok (.iload_n 1, 1) := by decide +kernel
theorem dX1_removeAt_26 : decode cX1_removeAt 26 = .ok (.aload_n 0, 1) := by decide +kernel
theorem dX1_removeAt_27 : decode cX1_removeAt 27 = .ok (.getfield 24, 3) := by decide +kernel
theorem dX1_removeAt_30 : decode cX1_removeAt 30 = .ok (.invokestatic 46, 3) := by decide +kernel
theorem dX1_removeAt_33 : decode cX1_removeAt 33 = .ok (.aload_n 0, 1) := by decide +kernel
theorem dX1_removeAt_34 : decode cX1_removeAt 34 = .ok (.getfield 18, 3) := by decide +kernel
theorem dX1_removeAt_37 : decode cX1_removeAt 37 = .ok (.iload_n 1, 1) := by decide +kernel
theorem dX1_removeAt_38 : decode cX1_removeAt 38 = .ok (.aload_n 0, 1) := by decide +kernel
theorem dX1_removeAt_39 : decode cX1_removeAt 39 = .ok (.getfield 24, 3) := by decide +kernel
theorem dX1_removeAt_42 : decode cX1_removeAt 42 = .ok (.invokestatic 46, 3) := by decide +kernel
theorem dX1_removeAt_45 : decode cX1_removeAt 45 = .ok (.aload_n 0, 1) := by decide +kernel
theorem dX1_removeAt_46 : decode cX1_removeAt 46 = .ok (.getfield 21, 3) := by decide +kernel
theorem dX1_removeAt_49 : decode cX1_removeAt 49 = .ok (.iload_n 1, 1) := by decide +kernel
theorem dX1_removeAt_50 : decode cX1_removeAt 50 = .ok (.aload_n 0, 1) := by decide +kernel
theorem dX1_removeAt_51 : decode cX1_removeAt 51 = .ok (.getfield 24, 3) := by decide +kernel
theorem dX1_removeAt_54 : decode cX1_removeAt 54 = .ok (.invokestatic 46, 3) := by decide +kernel
theorem dX1_removeAt_57 : decode cX1_removeAt 57 = .ok (.aload_n 0, 1) := by decide +kernel
theorem dX1_removeAt_58 : decode cX1_removeAt 58 = .ok (.dup, 1) := by decide +kernel
theorem dX1_removeAt_59 : decode cX1_removeAt 59 = .ok (.getfield 24, 3) := by decide +kernel
theorem dX1_removeAt_62 : decode cX1_removeAt 62 = .ok (.iconst 1, 1) := by decide +kernel
theorem dX1_removeAt_63 : decode cX1_removeAt 63 = .ok (.isub, 1) := by decide +kernel
theorem dX1_removeAt_64 : decode cX1_removeAt 64 = .ok (.putfield 24, 3) := by decide +kernel
theorem dX1_removeAt_67 : decode cX1_removeAt 67 = .ok (.return_, 1) := by decide +kernel
theorem dX1_copyFrom_0 : decode cX1_copyFrom 0 = .ok (.aload_n 1, 1) := by decide +kernel
theorem dX1_copyFrom_1 : decode cX1_copyFrom 1 = .ok (.getfield 9, 3) := by decide +kernel
theorem dX1_copyFrom_4 : decode cX1_copyFrom 4 = .ok (.aload_n 0, 1) := by decide +kernel
theorem dX1_copyFrom_5 : decode cX1_copyFrom 5 = .ok (.getfield 9, 3) := by decide +kernel
theorem dX1_copyFrom_8 : decode cX1_copyFrom 8 = .ok (.invokestatic 49, 3) := by decide +kernel
theorem dX1_copyFrom_11 : decode cX1_copyFrom 11 = .ok (.aload_n 1, 1) := by decide +kernel
theorem dX1_copyFrom_12 : decode cX1_copyFrom 12 = .ok (.getfield 15, 3) := by decide +kernel
theorem dX1_copyFrom_15 : decode cX1_copyFrom 15 = .ok (.aload_n 0, 1) := by decide +kernel
theorem dX1_copyFrom_16 : decode cX1_copyFrom 16 = .ok (.getfield 15, 3) := by decide +kernel
theorem dX1_copyFrom_19 : decode cX1_copyFrom 19 = .ok (.invokestatic 49, 3) := by decide +kernel
theorem dX1_copyFrom_22 : decode cX1_copyFrom 22 = .ok (.aload_n 1, 1) := by decide +kernel
theorem dX1_copyFrom_23 : decode cX1_copyFrom 23 = .ok (.getfield 18, 3) := by decide +kernel
theorem dX1_copyFrom_26 : decode cX1_copyFrom 26 = .ok (.aload_n 0, 1) := by decide +kernel
theorem dX1_copyFrom_27 : decode cX1_copyFrom 27 = .ok (.getfield 18, 3) := by decide +kernel
theorem dX1_copyFrom_30 : decode cX1_copyFrom 30 = .ok (.invokestatic 49, 3) := by decide +kernel
theorem dX1_copyFrom_33 : decode cX1_copyFrom 33 = .ok (.aload_n 1, 1) := by decide +kernel
theorem dX1_copyFrom_34 : decode cX1_copyFrom 34 = .ok (.getfield 21, 3) := by decide +kernel
theorem dX1_copyFrom_37 : decode cX1_copyFrom 37 = .ok (.aload_n 0, 1) := by decide +kernel
theorem dX1_copyFrom_38 : decode cX1_copyFrom 38 = .ok (.getfield 21, 3) := by decide +kernel
theorem dX1_copyFrom_41 : decode cX1_copyFrom 41 = .ok (.invokestatic 49, 3) := by decide +kernel
theorem dX1_copyFrom_44 : decode cX1_copyFrom 44 = .ok (.aload_n 0, 1) := by decide +kernel
theorem dX1_copyFrom_45 : decode cX1_copyFrom 45 = .ok (.aload_n 1, 1) := by decide +kernel
theorem dX1_copyFrom_46 : decode cX1_copyFrom 46 = .ok (.getfield 24, 3) := by decide +kernel
theorem dX1_copyFrom_49 : decode cX1_copyFrom 49 = .ok (.putfield 24, 3) := by decide +kernel
theorem dX1_copyFrom_52 : decode cX1_copyFrom 52 = .ok (.aload_n 0, 1) := by decide +kernel
theorem dX1_copyFrom_53 : decode cX1_copyFrom 53 = .ok (.aload_n 1, 1) := by decide +kernel
theorem dX1_copyFrom_54 : decode cX1_copyFrom 54 = .ok (.getfield 28, 3) := by decide +kernel
theorem dX1_copyFrom_57 : decode cX1_copyFrom 57 = .ok (.putfield 28, 3) := by decide +kernel
theorem dX1_copyFrom_60 : decode cX1_copyFrom 60 = .ok (.return_, 1) := by decide +kernel
theorem dX1_latestOfAnother_0 : decode cX1_latestOfAnother 0 = .ok (.aload_n 0, 1) := by decide +kernel
theorem dX1_latestOfAnother_1 : decode cX1_latestOfAnother 1 = .ok (.getfield 24, 3) := by decide +kernel
theorem dX1_latestOfAnother_4 : decode cX1_latestOfAnother 4 = .ok (.iconst 1, 1) := by decide +kernel
theorem dX1_latestOfAnother_5 : decode cX1_latestOfAnother 5 = .ok (.isub, 1) := by decide +kernel
theorem dX1_latestOfAnother_6 : decode cX1_latestOfAnother 6 = .ok (.istore 4, 2) := by decide +kernel
theorem dX1_latestOfAnother_8 : decode cX1_latestOfAnother 8 = .ok (.iload 4, 2) := by decide +kernel
theorem dX1_latestOfAnother_10 : decode cX1_latestOfAnother 10 = .ok (.ifCond .lt 43, 3) := by decide +kernel
theorem dX1_latestOfAnother_13 : decode cX1_latestOfAnother 13 = .ok (.aload_n 0, 1) := by decide +kernel
theorem dX1_latestOfAnother_14 : decode cX1_latestOfAnother 14 = .ok (.getfield 9, 3) := by decide +kernel
theorem dX1_latestOfAnother_17 : decode cX1_latestOfAnother 17 = .ok (.iload 4, 2) := by decide +kernel
theorem dX1_latestOfAnother_19 : decode cX1_latestOfAnother 19 = .ok (.invokestatic 53, 3) := by decide +kernel
theorem dX1_latestOfAnother_22 : decode cX1_latestOfAnother 22 = .ok (.iload_n 1, 1) := by decide +kernel
theorem dX1_latestOfAnother_23 : decode cX1_latestOfAnother 23 = .ok (.if_icmp .eq 24, 3) := by decide +kernel
theorem dX1_latestOfAnother_26 : decode cX1_latestOfAnother 26 = .ok (.aload_n 0, 1) := by decide +kernel
theorem dX1_latestOfAnother_27 : decode cX1_latestOfAnother 27 = .ok (.iload 4, 2) := by decide +kernel
theorem dX1_latestOfAnother_29 : decode cX1_latestOfAnother 29 = .ok (.iload_n 2, 1) := by decide +kernel
theorem dX1_latestOfAnother_30 : decode cX1_latestOfAnother 30 = .ok (.iload_n 3, 1) := by decide +kernel
theorem dX1_latestOfAnother_31 : decode cX1_latestOfAnother 31 = .ok (.invokevirtual 57, 3) := by decide +kernel
theorem dX1_latestOfAnother_34 : decode cX1_latestOfAnother 34 = .ok (.ifCond .eq 13, 3) := by decide +kernel
theorem dX1_latestOfAnother_37 : decode cX1_latestOfAnother 37 = .ok (.aload_n 0, 1) := by decide +kernel
theorem dX1_latestOfAnother_38 : decode cX1_latestOfAnother 38 = .ok (.getfield 21, 3) := by decide +kernel
theorem dX1_latestOfAnother_41 : decode cX1_latestOfAnother 41 = .ok (.iload 4, 2) := by decide +kernel
theorem dX1_latestOfAnother_43 : decode cX1_latestOfAnother 43 = .ok (.invokestatic 53, 3) := by decide +kernel
theorem dX1_latestOfAnother_46 : decode cX1_latestOfAnother 46 = .ok (.ireturn, 1) := by decide +kernel
theorem dX1_latestOfAnother_47 : decode cX1_latestOfAnother 47 = .ok (.iinc 4 (-1), 3) := by decide +kernel
theorem dX1_latestOfAnother_50 : decode cX1_latestOfAnother 50 = .ok (.goto (-42), 3) := by decide +kernel
theorem dX1_latestOfAnother_53 : decode cX1_latestOfAnother 53 = .ok (.bipush (-4), 2) := by decide +kernel
theorem dX1_latestOfAnother_55 : decode cX1_latestOfAnother 55 = .ok (.ireturn, 1) := by decide +kernel
theorem dX1_isBetween_0 : decode cX1_isBetween 0 = .ok (.aload_n 0, 1) := by decide +kernel
theorem dX1_isBetween_1 : decode cX1_isBetween 1 = .ok (.getfield 15, 3) := by decide +kernel
theorem dX1_isBetween_4 : decode cX1_isBetween 4 = .ok (.iload_n 1, 1) := by decide +kernel
theorem dX1_isBetween_5 : decode cX1_isBetween 5 = .ok (.invokestatic 53, 3) := by decide +kernel
theorem dX1_isBetween_8 : decode cX1_isBetween 8 = .ok (.istore 4, 2) := by decide +kernel
theorem dX1_isBetween_10 : decode cX1_isBetween 10 = .ok (.aload_n 0, 1) := by decide +kernel
theorem dX1_isBetween_11 : decode cX1_isBetween 11 = .ok (.getfield 18, 3) := by decide +kernel
theorem dX1_isBetween_14 : decode cX1_isBetween 14 = .ok (.iload_n 1, 1) := by decide +kernel
theorem dX1_isBetween_15 : decode cX1_isBetween 15 = .ok (.invokestatic 53, 3) := by decide +kernel
theorem dX1_isBetween_18 : decode cX1_isBetween 18 = .ok (.istore 5, 2) := by decide +kernel
theorem dX1_isBetween_20 : decode cX1_isBetween 20 = .ok (.iload 4, 2) := by decide +kernel
theorem dX1_isBetween_22 : decode cX1_isBetween 22 = .ok (.iload_n 2, 1) := by decide +kernel
theorem dX1_isBetween_23 : decode cX1_isBetween 23 = .ok (.if_icmp .ne 9, 3) := by decide +kernel
theorem dX1_isBetween_26 : decode cX1_isBetween 26 = .ok (.iload 5, 2) := by decide +kernel
theorem dX1_isBetween_28 : decode cX1_isBetween 28 = .ok (.iload_n 3, 1) := by decide +kernel
theorem dX1_isBetween_29 : decode cX1_isBetween 29 = .ok (.if_icmp .eq 15, 3) := by decide +kernel
theorem dX1_isBetween_32 : decode cX1_isBetween 32 = .ok (.iload 4, 2) := by decide +kernel
theorem dX1_isBetween_34 : decode cX1_isBetween 34 = .ok (.iload_n 3, 1) := by decide +kernel
theorem dX1_isBetween_35 : decode cX1_isBetween 35 = .ok (.if_icmp .ne 13, 3) := by decide +kernel
theorem dX1_isBetween_38 : decode cX1_isBetween 38 = .ok (.iload 5, 2) := by decide +kernel
theorem dX1_isBetween_40 : decode cX1_isBetween 40 = .ok (.iload_n 2, 1) := by decide +kernel
theorem dX1_isBetween_41 : decode cX1_isBetween 41 = .ok (.if_icmp .ne 7, 3) := by decide +kernel
theorem dX1_isBetween_44 : decode cX1_isBetween 44 = .ok (.iconst 1, 1) := by decide +kernel
theorem dX1_isBetween_45 : decode cX1_isBetween 45 = .ok (.goto 4, 3) := by decide +kernel
theorem dX1_isBetween_48 : decode cX1_isBetween 48 = .ok (.iconst 0, 1) := by decide +kernel
theorem dX1_isBetween_49 : decode cX1_isBetween 49 = .ok (.ireturn, 1) := by decide +kernel
theorem dX2_init_0 : decode cX2_init 0 = .ok (.aload_n 0, 1) := by decide +kernel
theorem dX2_init_1 : decode cX2_init 1 = .ok (.invokespecial 3, 3) := by decide +kernel
theorem dX2_init_4 : decode cX2_init 4 = .ok (.aload_n 0, 1) := by decide +kernel
theorem dX2_init_5 : decode cX2_init 5 = .ok (.bipush 9, 2) := by decide +kernel
theorem dX2_init_7 : decode cX2_init 7 = .ok (.newarray .int, 2) := by decide +kernel
theorem dX2_init_9 : decode cX2_init 9 = .ok (.putfield 9, 3) := by decide +kernel
theorem dX2_init_12 : decode cX2_init 12 = .ok (.aload_n 0, 1) := by decide +kernel
theorem dX2_init_13 : decode cX2_init 13 = .ok (.bipush 9, 2) := by decide +kernel
theorem dX2_init_15 : decode cX2_init 15 = .ok (.newarray .int, 2) := by decide +kernel
theorem dX2_init_17 : decode cX2_init 17 = .ok (.putfield 15, 3) := by decide +kernel
theorem dX2_init_20 : decode cX2_init 20 = .ok (.aload_n 0, 1) := by decide +kernel
theorem dX2_init_21 : decode cX2_init 21 = .ok (.iconst 0, 1) := by decide +kernel
theorem dX2_init_22 : decode cX2_init 22 = .ok (.putfield 18, 3) := by decide +kernel
theorem dX2_init_25 : decode cX2_init 25 = .ok (.return_, 1) := by decide +kernel
theorem dX2_reckon_0 : decode cX2_reckon 0 = .ok (.aload_n 0, 1) := by decide +kernel
theorem dX2_reckon_1 : decode cX2_reckon 1 = .ok (.aload_n 2, 1) := by decide +kernel
theorem dX2_reckon_2 : decode cX2_reckon 2 = .ok (.getfield 22, 3) := by decide +kernel
theorem dX2_reckon_5 : decode cX2_reckon 5 = .ok (.putfield 18, 3) := by decide +kernel
theorem dX2_reckon_8 : decode cX2_reckon 8 = .ok (.iconst 0, 1) := by decide +kernel
theorem dX2_reckon_9 : decode cX2_reckon 9 = .ok (.istore_n 3, 1) := by decide +kernel
theorem dX2_reckon_10 : decode cX2_reckon 10 = .ok (.iload_n 3, 1) := by decide +kernel
theorem dX2_reckon_11 : decode cX2_reckon 11 = .ok (.aload_n 0, 1) := by decide +kernel
theorem dX2_reckon_12 : decode cX2_reckon 12 = .ok (.getfield 18, 3) := by decide +kernel
theorem dX2_reckon_15 : decode cX2_reckon 15 = .ok (.if_icmp .ge 90, 3) := by decide +kernel
theorem dX2_reckon_18 : decode cX2_reckon 18 = .ok (.aload_n 2, 1) := by decide +kernel
theorem dX2_reckon_19 : decode cX2_reckon 19 = .ok (.getfield 25, 3) := by decide +kernel
theorem dX2_reckon_22 : decode cX2_reckon 22 = .ok (.iload_n 3, 1) := by decide +kernel
theorem dX2_reckon_23 : decode cX2_reckon 23 = .ok (.invokestatic 28, 3) := by decide +kernel
theorem dX2_reckon_26 : decode cX2_reckon 26 = .ok (.istore 4, 2) := by decide +kernel
theorem dX2_reckon_28 : decode cX2_reckon 28 = .ok (.aload_n 2, 1) := by decide +kernel
theorem dX2_reckon_29 : decode cX2_reckon 29 = .ok (.getfield 32, 3) := by decide +kernel
theorem dX2_reckon_32 : decode cX2_reckon 32 = .ok (.iload_n 3, 1) := by decide +kernel
theorem dX2_reckon_33 : decode cX2_reckon 33 = .ok (.invokestatic 28, 3) := by decide +kernel
theorem dX2_reckon_36 : decode cX2_reckon 36 = .ok (.istore 5, 2) := by decide +kernel
theorem dX2_reckon_38 : decode cX2_reckon 38 = .ok (.aload_n 1, 1) := by decide +kernel
theorem dX2_reckon_39 : decode cX2_reckon 39 = .ok (.aload_n 2, 1) := by decide +kernel
theorem dX2_reckon_40 : decode cX2_reckon 40 = .ok (.getfield 35, 3) := by decide +kernel
theorem dX2_reckon_43 : decode cX2_reckon 43 = .ok (.iload_n 3, 1) := by decide +kernel
theorem dX2_reckon_44 : decode cX2_reckon 44 = .ok (.invokestatic 28, 3) := by decide +kernel
theorem dX2_reckon_47 : decode cX2_reckon 47 = .ok (.aload_n 2, 1) := by decide +kernel
theorem dX2_reckon_48 : decode cX2_reckon 48 = .ok (.getfield 38, 3) := by decide +kernel
theorem dX2_reckon_51 : decode cX2_reckon 51 = .ok (.iload_n 3, 1) := by decide +kernel
theorem dX2_reckon_52 : decode cX2_reckon 52 = .ok (.invokestatic 28, 3) := by decide +kernel
theorem dX2_reckon_55 : decode cX2_reckon 55 = .ok (.invokevirtual 41, 3) := by decide +kernel
theorem dX2_reckon_58 : decode cX2_reckon 58 = .ok (.istore 6, 2) := by decide +kernel
theorem dX2_reckon_60 : decode cX2_reckon 60 = .ok (.aload_n 0, 1) := by decide +kernel
theorem dX2_reckon_61 : decode cX2_reckon 61 = .ok (.getfield 9, 3) := by decide +kernel
theorem dX2_reckon_64 : decode cX2_reckon 64 = .ok (.iload_n 3, 1) := by decide +kernel
theorem dX2_reckon_65 : decode cX2_reckon 65 = .ok (.aload_n 1, 1) := by decide +kernel
theorem dX2_reckon_66 : decode cX2_reckon 66 = .ok (.iload 4, 2) := by decide +kernel
theorem dX2_reckon_68 : decode cX2_reckon 68 = .ok (.iload 5, 2) := by decide +kernel
theorem dX2_reckon_70 : decode cX2_reckon 70 = .ok (.iload 6, 2) := by decide +kernel
theorem dX2_reckon_72 : decode cX2_reckon 72 = .ok (.invokevirtual 47, 3) := by decide +kernel
theorem dX2_reckon_75 : decode cX2_reckon 75 = .ok (.invokestatic 51, 3) := by decide +kernel
theorem dX2_reckon_78 : decode cX2_reckon 78 = .ok (.aload_n 0, 1) := by decide +kernel
theorem dX2_reckon_79 : decode cX2_reckon 79 = .ok (.getfield 15, 3) := by decide +kernel
theorem dX2_reckon_82 : decode cX2_reckon 82 = .ok (.iload_n 3, 1) := by decide +kernel
theorem dX2_reckon_83 : decode cX2_reckon 83 = .ok (.aload_n 1, 1) := by decide +kernel
theorem dX2_reckon_84 : decode cX2_reckon 84 = .ok (.iload 4, 2) := by decide +kernel
theorem dX2_reckon_86 : decode cX2_reckon 86 = .ok (.iload 5, 2) := by decide +kernel
theorem dX2_reckon_88 : decode cX2_reckon 88 = .ok (.invokestatic 55, 3) := by decide +kernel
theorem dX2_reckon_91 : decode cX2_reckon 91 = .ok (.iload 6, 2) := by decide +kernel
theorem dX2_reckon_93 : decode cX2_reckon 93 = .ok (.invokevirtual 47, 3) := by decide +kernel
theorem dX2_reckon_96 : decode cX2_reckon 96 = .ok (.invokestatic 51, 3) := by decide +kernel
theorem dX2_reckon_99 : decode cX2_reckon 99 = .ok (.iinc 3 1, 3) := by decide +kernel
theorem dX2_reckon_102 : decode cX2_reckon 102 = .ok (.goto (-92), 3) := by decide +kernel
theorem dX2_reckon_105 : decode cX2_reckon 105 = .ok (.return_, 1) := by decide +kernel
theorem dX2_meanOf_0 : decode cX2_meanOf 0 = .ok (.iconst 0, 1) := by decide +kernel
theorem dX2_meanOf_1 : decode cX2_meanOf 1 = .ok (.istore_n 3, 1) := by decide +kernel
theorem dX2_meanOf_2 : decode cX2_meanOf 2 = .ok (.iconst 0, 1) := by decide +kernel
theorem dX2_meanOf_3 : decode cX2_meanOf 3 = .ok (.istore 4, 2) := by decide +kernel
theorem dX2_meanOf_5 : decode cX2_meanOf 5 = .ok (.iconst 0, 1) := by decide +kernel
theorem dX2_meanOf_6 : decode cX2_meanOf 6 = .ok (.istore 5, 2) := by decide +kernel
theorem dX2_meanOf_8 : decode cX2_meanOf 8 = .ok (.iload 5, 2) := by decide +kernel
theorem dX2_meanOf_10 : decode cX2_meanOf 10 = .ok (.aload_n 0, 1) := by decide +kernel
theorem dX2_meanOf_11 : decode cX2_meanOf 11 = .ok (.getfield 18, 3) := by decide +kernel
theorem dX2_meanOf_14 : decode cX2_meanOf 14 = .ok (.if_icmp .ge 67, 3) := by decide +kernel
theorem dX2_meanOf_17 : decode cX2_meanOf 17 = .ok (.iconst 1, 1) := by decide +kernel
theorem dX2_meanOf_18 : decode cX2_meanOf 18 = .ok (.iload 5, 2) := by decide +kernel
theorem dX2_meanOf_20 : decode cX2_meanOf 20 = .ok (.ishl, 1) := by decide +kernel
theorem dX2_meanOf_21 : decode cX2_meanOf 21 = .ok (.istore 6, 2) := by decide +kernel
theorem dX2_meanOf_23 : decode cX2_meanOf 23 = .ok (.iload_n 2, 1) := by decide +kernel
theorem dX2_meanOf_24 : decode cX2_meanOf 24 = .ok (.iload 6, 2) := by decide +kernel
theorem dX2_meanOf_26 : decode cX2_meanOf 26 = .ok (.iand, 1) := by decide +kernel
theorem dX2_meanOf_27 : decode cX2_meanOf 27 = .ok (.ifCond .eq 15, 3) := by decide +kernel
theorem dX2_meanOf_30 : decode cX2_meanOf 30 = .ok (.aload_n 0, 1) := by decide +kernel
theorem dX2_meanOf_31 : decode cX2_meanOf 31 = .ok (.getfield 15, 3) := by decide +kernel
theorem dX2_meanOf_34 : decode cX2_meanOf 34 = .ok (.iload 5, 2) := by decide +kernel
theorem dX2_meanOf_36 : decode cX2_meanOf 36 = .ok (.invokestatic 28, 3) := by decide +kernel
theorem dX2_meanOf_39 : decode cX2_meanOf 39 = .ok (.goto 12, 3) := by decide +kernel
theorem dX2_meanOf_42 : decode cX2_meanOf 42 = .ok (.aload_n 0, 1) := by decide +kernel
theorem dX2_meanOf_43 : decode cX2_meanOf 43 = .ok (.getfield 9, 3) := by decide +kernel
theorem dX2_meanOf_46 : decode cX2_meanOf 46 = .ok (.iload 5, 2) := by decide +kernel
theorem dX2_meanOf_48 : decode cX2_meanOf 48 = .ok (.invokestatic 28, 3) := by decide +kernel
theorem dX2_meanOf_51 : decode cX2_meanOf 51 = .ok (.istore 7, 2) := by decide +kernel
theorem dX2_meanOf_53 : decode cX2_meanOf 53 = .ok (.iload_n 1, 1) := by decide +kernel
theorem dX2_meanOf_54 : decode cX2_meanOf 54 = .ok (.iload 6, 2) := by decide +kernel
theorem dX2_meanOf_56 : decode cX2_meanOf 56 = .ok (.iand, 1) := by decide +kernel
theorem dX2_meanOf_57 : decode cX2_meanOf 57 = .ok (.ifCond .eq 18, 3) := by decide +kernel
theorem dX2_meanOf_60 : decode cX2_meanOf 60 = .ok (.iload 7, 2) := by decide +kernel
theorem dX2_meanOf_62 : decode cX2_meanOf 62 = .ok (.bipush (-4), 2) := by decide +kernel
theorem dX2_meanOf_64 : decode cX2_meanOf 64 = .ok (.if_icmp .eq 11, 3) := by decide +kernel
theorem dX2_meanOf_67 : decode cX2_meanOf 67 = .ok (.iload_n 3, 1) := by decide +kernel
theorem dX2_meanOf_68 : decode cX2_meanOf 68 = .ok (.iload 7, 2) := by decide +kernel
theorem dX2_meanOf_70 : decode cX2_meanOf 70 = .ok (.iadd, 1) := by decide +kernel
theorem dX2_meanOf_71 : decode cX2_meanOf 71 = .ok (.istore_n 3, 1) := by decide +kernel
theorem dX2_meanOf_72 : decode cX2_meanOf 72 = .ok (.iinc 4 1, 3) := by decide +kernel
theorem dX2_meanOf_75 : decode cX2_meanOf 75 = .ok (.iinc 5 1, 3) := by decide +kernel
theorem dX2_meanOf_78 : decode cX2_meanOf 78 = .ok (.goto (-70), 3) := by decide +kernel
theorem dX2_meanOf_81 : decode cX2_meanOf 81 = .ok (.iload 4, 2) := by decide +kernel
theorem dX2_meanOf_83 : decode cX2_meanOf 83 = .ok (.ifCond .le 10, 3) := by decide +kernel
theorem dX2_meanOf_86 : decode cX2_meanOf 86 = .ok (.iload_n 3, 1) := by decide +kernel
theorem dX2_meanOf_87 : decode cX2_meanOf 87 = .ok (.iload 4, 2) := by decide +kernel
theorem dX2_meanOf_89 : decode cX2_meanOf 89 = .ok (.idiv, 1) := by decide +kernel
theorem dX2_meanOf_90 : decode cX2_meanOf 90 = .ok (.goto 5, 3) := by decide +kernel
theorem dX2_meanOf_93 : decode cX2_meanOf 93 = .ok (.bipush (-4), 2) := by decide +kernel
theorem dX2_meanOf_95 : decode cX2_meanOf 95 = .ok (.ireturn, 1) := by decide +kernel
theorem dX3_init_0 : decode cX3_init 0 = .ok (.aload_n 0, 1) := by decide +kernel
theorem dX3_init_1 : decode cX3_init 1 = .ok (.invokespecial 3, 3) := by decide +kernel
theorem dX3_init_4 : decode cX3_init 4 = .ok (.aload_n 0, 1) := by decide +kernel
theorem dX3_init_5 : decode cX3_init 5 = .ok (.sipush 200, 3) := by decide +kernel
theorem dX3_init_8 : decode cX3_init 8 = .ok (.newarray .int, 2) := by decide +kernel
theorem dX3_init_10 : decode cX3_init 10 = .ok (.putfield 9, 3) := by decide +kernel
theorem dX3_init_13 : decode cX3_init 13 = .ok (.aload_n 0, 1) := by decide +kernel
theorem dX3_init_14 : decode cX3_init 14 = .ok (.iconst 0, 1) := by decide +kernel
theorem dX3_init_15 : decode cX3_init 15 = .ok (.putfield 15, 3) := by decide +kernel
theorem dX3_init_18 : decode cX3_init 18 = .ok (.return_, 1) := by decide +kernel
theorem dX3_append_0 : decode cX3_append 0 = .ok (.aload_n 0, 1) := by decide +kernel
theorem dX3_append_1 : decode cX3_append 1 = .ok (.getfield 15, 3) := by decide +kernel
theorem dX3_append_4 : decode cX3_append 4 = .ok (.sipush 200, 3) := by decide +kernel
theorem dX3_append_7 : decode cX3_append 7 = .ok (.if_icmp .ge 25, 3) := by decide +kernel
theorem dX3_append_10 : decode cX3_append 10 = .ok (.aload_n 0, 1) := by decide +kernel
theorem dX3_append_11 : decode cX3_append 11 = .ok (.getfield 9, 3) := by decide +kernel
theorem dX3_append_14 : decode cX3_append 14 = .ok (.aload_n 0, 1) := by decide +kernel
theorem dX3_append_15 : decode cX3_append 15 = .ok (.getfield 15, 3) := by decide +kernel
theorem dX3_append_18 : decode cX3_append 18 = .ok (.iload_n 1, 1) := by decide +kernel
theorem dX3_append_19 : decode cX3_append 19 = .ok (.invokestatic 19, 3) := by decide +kernel
theorem dX3_append_22 : decode cX3_append 22 = .ok (.aload_n 0, 1) := by decide +kernel
theorem dX3_append_23 : decode cX3_append 23 = .ok (.dup, 1) := by decide +kernel
theorem dX3_append_24 : decode cX3_append 24 = .ok (.getfield 15, 3) := by decide +kernel
theorem dX3_append_27 : decode cX3_append 27 = .ok (.iconst 1, 1) := by decide +kernel
theorem dX3_append_28 : decode cX3_append 28 = .ok (.iadd, 1) := by decide +kernel
theorem dX3_append_29 : decode cX3_append 29 = .ok (.putfield 15, 3) := by decide +kernel
theorem dX3_append_32 : decode cX3_append 32 = .ok (.return_, 1) := by decide +kernel
theorem dX3_clear_0 : decode cX3_clear 0 = .ok (.aload_n 0, 1) := by decide +kernel
theorem dX3_clear_1 : decode cX3_clear 1 = .ok (.iconst 0, 1) := by decide +kernel
theorem dX3_clear_2 : decode cX3_clear 2 = .ok (.putfield 15, 3) := by decide +kernel
theorem dX3_clear_5 : decode cX3_clear 5 = .ok (.return_, 1) := by decide +kernel
theorem dX3_letterAt_0 : decode cX3_letterAt 0 = .ok (.iload_n 1, 1) := by decide +kernel
theorem dX3_letterAt_1 : decode cX3_letterAt 1 = .ok (.aload_n 0, 1) := by decide +kernel
theorem dX3_letterAt_2 : decode cX3_letterAt 2 = .ok (.getfield 15, 3) := by decide +kernel
theorem dX3_letterAt_5 : decode cX3_letterAt 5 = .ok (.if_icmp .ge 14, 3) := by decide +kernel
theorem dX3_letterAt_8 : decode cX3_letterAt 8 = .ok (.aload_n 0, 1) := by decide +kernel
theorem dX3_letterAt_9 : decode cX3_letterAt 9 = .ok (.getfield 9, 3) := by decide +kernel
theorem dX3_letterAt_12 : decode cX3_letterAt 12 = .ok (.iload_n 1, 1) := by decide +kernel
theorem dX3_letterAt_13 : decode cX3_letterAt 13 = .ok (.invokestatic 23, 3) := by decide +kernel
theorem dX3_letterAt_16 : decode cX3_letterAt 16 = .ok (.goto 4, 3) := by decide +kernel
theorem dX3_letterAt_19 : decode cX3_letterAt 19 = .ok (.iconst 0, 1) := by decide +kernel
theorem dX3_letterAt_20 : decode cX3_letterAt 20 = .ok (.ireturn, 1) := by decide +kernel
theorem dX4_init_0 : decode cX4_init 0 = .ok (.aload_n 0, 1) := by decide +kernel
theorem dX4_init_1 : decode cX4_init 1 = .ok (.invokespecial 3, 3) := by decide +kernel
theorem dX4_init_4 : decode cX4_init 4 = .ok (.aload_n 0, 1) := by decide +kernel
theorem dX4_init_5 : decode cX4_init 5 = .ok (.iconst 3, 1) := by decide +kernel
theorem dX4_init_6 : decode cX4_init 6 = .ok (.newarray .int, 2) := by decide +kernel
theorem dX4_init_8 : decode cX4_init 8 = .ok (.putfield 9, 3) := by decide +kernel
theorem dX4_init_11 : decode cX4_init 11 = .ok (.aload_n 0, 1) := by decide +kernel
theorem dX4_init_12 : decode cX4_init 12 = .ok (.iconst 0, 1) := by decide +kernel
theorem dX4_init_13 : decode cX4_init 13 = .ok (.putfield 15, 3) := by decide +kernel
theorem dX4_init_16 : decode cX4_init 16 = .ok (.return_, 1) := by decide +kernel
theorem dX4_firstFault_0 : decode cX4_firstFault 0 = .ok (.aload_n 2, 1) := by decide +kernel
theorem dX4_firstFault_1 : decode cX4_firstFault 1 = .ok (.invokevirtual 19, 3) := by decide +kernel
theorem dX4_firstFault_4 : decode cX4_firstFault 4 = .ok (.aload_n 0, 1) := by decide +kernel
theorem dX4_firstFault_5 : decode cX4_firstFault 5 = .ok (.iconst 0, 1) := by decide +kernel
theorem dX4_firstFault_6 : decode cX4_firstFault 6 = .ok (.putfield 15, 3) := by decide +kernel
theorem dX4_firstFault_9 : decode cX4_firstFault 9 = .ok (.iconst 0, 1) := by decide +kernel
theorem dX4_firstFault_10 : decode cX4_firstFault 10 = .ok (.istore_n 3, 1) := by decide +kernel
theorem dX4_firstFault_11 : decode cX4_firstFault 11 = .ok (.iload_n 3, 1) := by decide +kernel
theorem dX4_firstFault_12 : decode cX4_firstFault 12 = .ok (.sipush 200, 3) := by decide +kernel
theorem dX4_firstFault_15 : decode cX4_firstFault 15 = .ok (.if_icmp .ge 38, 3) := by decide +kernel
theorem dX4_firstFault_18 : decode cX4_firstFault 18 = .ok (.aload_n 0, 1) := by decide +kernel
theorem dX4_firstFault_19 : decode cX4_firstFault 19 = .ok (.getfield 15, 3) := by decide +kernel
theorem dX4_firstFault_22 : decode cX4_firstFault 22 = .ok (.aload_n 1, 1) := by decide +kernel
theorem dX4_firstFault_23 : decode cX4_firstFault 23 = .ok (.getfield 24, 3) := by decide +kernel
theorem dX4_firstFault_26 : decode cX4_firstFault 26 = .ok (.if_icmp .ge 27, 3) := by decide +kernel
theorem dX4_firstFault_29 : decode cX4_firstFault 29 = .ok (.aload_n 0, 1) := by decide +kernel
theorem dX4_firstFault_30 : decode cX4_firstFault 30 = .ok (.getfield 15, 3) := by decide +kernel
theorem dX4_firstFault_33 : decode cX4_firstFault 33 = .ok (.istore 4, 2) := by decide +kernel
theorem dX4_firstFault_35 : decode cX4_firstFault 35 = .ok (.aload_n 0, 1) := by decide +kernel
theorem dX4_firstFault_36 : decode cX4_firstFault 36 = .ok (.aload_n 1, 1) := by decide +kernel
theorem dX4_firstFault_37 : decode cX4_firstFault 37 = .ok (.aload_n 2, 1) := by decide +kernel
theorem dX4_firstFault_38 : decode cX4_firstFault 38 = .ok (.invokevirtual 29, 3) := by decide +kernel
theorem dX4_firstFault_41 : decode cX4_firstFault 41 = .ok (.ifCond .ne 6, 3) := by decide +kernel
theorem dX4_firstFault_44 : decode cX4_firstFault 44 = .ok (.iload 4, 2) := by decide +kernel
theorem dX4_firstFault_46 : decode cX4_firstFault 46 = .ok (.ireturn, 1) := by decide +kernel
theorem dX4_firstFault_47 : decode cX4_firstFault 47 = .ok (.iinc 3 1, 3) := by decide +kernel
theorem dX4_firstFault_50 : decode cX4_firstFault 50 = .ok (.goto (-39), 3) := by decide +kernel
theorem dX4_firstFault_53 : decode cX4_firstFault 53 = .ok (.aload_n 2, 1) := by decide +kernel
theorem dX4_firstFault_54 : decode cX4_firstFault 54 = .ok (.invokevirtual 33, 3) := by decide +kernel
theorem dX4_firstFault_57 : decode cX4_firstFault 57 = .ok (.bipush (-4), 2) := by decide +kernel
theorem dX4_firstFault_59 : decode cX4_firstFault 59 = .ok (.ireturn, 1) := by decide +kernel
theorem dX4_takesItem_0 : decode cX4_takesItem 0 = .ok (.aload_n 1, 1) := by decide +kernel
theorem dX4_takesItem_1 : decode cX4_takesItem 1 = .ok (.aload_n 0, 1) := by decide +kernel
theorem dX4_takesItem_2 : decode cX4_takesItem 2 = .ok (.getfield 15, 3) := by decide +kernel
theorem dX4_takesItem_5 : decode cX4_takesItem 5 = .ok (.invokevirtual 36, 3) := by decide +kernel
theorem dX4_takesItem_8 : decode cX4_takesItem 8 = .ok (.istore_n 3, 1) := by decide +kernel
theorem dX4_takesItem_9 : decode cX4_takesItem 9 = .ok (.iload_n 3, 1) := by decide +kernel
theorem dX4_takesItem_10 : decode cX4_takesItem 10 = .ok (.invokestatic 40, 3) := by decide +kernel
theorem dX4_takesItem_13 : decode cX4_takesItem 13 = .ok (.istore 4, 2) := by decide +kernel
theorem dX4_takesItem_15 : decode cX4_takesItem 15 = .ok (.aload_n 0, 1) := by decide +kernel
theorem dX4_takesItem_16 : decode cX4_takesItem 16 = .ok (.dup, 1) := by decide +kernel
theorem dX4_takesItem_17 : decode cX4_takesItem 17 = .ok (.getfield 15, 3) := by decide +kernel
theorem dX4_takesItem_20 : decode cX4_takesItem 20 = .ok (.iconst 1, 1) := by decide +kernel
theorem dX4_takesItem_21 : decode cX4_takesItem 21 = .ok (.iadd, 1) := by decide +kernel
theorem dX4_takesItem_22 : decode cX4_takesItem 22 = .ok (.putfield 15, 3) := by decide +kernel
theorem dX4_takesItem_25 : decode cX4_takesItem 25 = .ok (.iconst 0, 1) := by decide +kernel
theorem dX4_takesItem_26 : decode cX4_takesItem 26 = .ok (.istore 5, 2) := by decide +kernel
theorem dX4_takesItem_28 : decode cX4_takesItem 28 = .ok (.iload 5, 2) := by decide +kernel
theorem dX4_takesItem_30 : decode cX4_takesItem 30 = .ok (.iload 4, 2) := by decide +kernel
theorem dX4_takesItem_32 : decode cX4_takesItem 32 = .ok (.if_icmp .ge 77, 3) := by decide +kernel
theorem dX4_takesItem_35 : decode cX4_takesItem 35 = .ok (.aload_n 0, 1) := by decide +kernel
theorem dX4_takesItem_36 : decode cX4_takesItem 36 = .ok (.aload_n 1, 1) := by decide +kernel
theorem dX4_takesItem_37 : decode cX4_takesItem 37 = .ok (.invokevirtual 43, 3) := by decide +kernel
theorem dX4_takesItem_40 : decode cX4_takesItem 40 = .ok (.istore 6, 2) := by decide +kernel
theorem dX4_takesItem_42 : decode cX4_takesItem 42 = .ok (.iload 5, 2) := by decide +kernel
theorem dX4_takesItem_44 : decode cX4_takesItem 44 = .ok (.iload 4, 2) := by decide +kernel
theorem dX4_takesItem_46 : decode cX4_takesItem 46 = .ok (.iconst 1, 1) := by decide +kernel
theorem dX4_takesItem_47 : decode cX4_takesItem 47 = .ok (.isub, 1) := by decide +kernel
theorem dX4_takesItem_48 : decode cX4_takesItem 48 = .ok (.if_icmp .ge 8, 3) := by decide +kernel
theorem dX4_takesItem_51 : decode cX4_takesItem 51 = .ok (.bipush 44, 2) := by decide +kernel
theorem dX4_takesItem_53 : decode cX4_takesItem 53 = .ok (.goto 5, 3) := by decide +kernel
theorem dX4_takesItem_56 : decode cX4_takesItem 56 = .ok (.bipush 59, 2) := by decide +kernel
theorem dX4_takesItem_58 : decode cX4_takesItem 58 = .ok (.istore 7, 2) := by decide +kernel
theorem dX4_takesItem_60 : decode cX4_takesItem 60 = .ok (.iload 6, 2) := by decide +kernel
theorem dX4_takesItem_62 : decode cX4_takesItem 62 = .ok (.bipush (-4), 2) := by decide +kernel
theorem dX4_takesItem_64 : decode cX4_takesItem 64 = .ok (.if_icmp .eq 16, 3) := by decide +kernel
theorem dX4_takesItem_67 : decode cX4_takesItem 67 = .ok (.aload_n 1, 1) := by decide +kernel
theorem dX4_takesItem_68 : decode cX4_takesItem 68 = .ok (.aload_n 0, 1) := by decide +kernel
theorem dX4_takesItem_69 : decode cX4_takesItem 69 = .ok (.getfield 15, 3) := by decide +kernel
theorem dX4_takesItem_72 : decode cX4_takesItem 72 = .ok (.invokevirtual 36, 3) := by decide +kernel
theorem dX4_takesItem_75 : decode cX4_takesItem 75 = .ok (.iload 7, 2) := by decide +kernel
theorem dX4_takesItem_77 : decode cX4_takesItem 77 = .ok (.if_icmp .eq 5, 3) := by decide +kernel
theorem dX4_takesItem_80 : decode cX4_takesItem 80 = .ok (.iconst 0, 1) := by decide +kernel
theorem dX4_takesItem_81 : decode cX4_takesItem 81 = .ok (.ireturn, 1) := by decide +kernel
theorem dX4_takesItem_82 : decode cX4_takesItem 82 = .ok (.aload_n 0, 1) := by decide +kernel
theorem dX4_takesItem_83 : decode cX4_takesItem 83 = .ok (.getfield 9, 3) := by decide +kernel
theorem dX4_takesItem_86 : decode cX4_takesItem 86 = .ok (.iload 5, 2) := by decide +kernel
theorem dX4_takesItem_88 : decode cX4_takesItem 88 = .ok (.iload 6, 2) := by decide +kernel
theorem dX4_takesItem_90 : decode cX4_takesItem 90 = .ok (.invokestatic 47, 3) := by decide +kernel
theorem dX4_takesItem_93 : decode cX4_takesItem 93 = .ok (.aload_n 0, 1) := by decide +kernel
theorem dX4_takesItem_94 : decode cX4_takesItem 94 = .ok (.dup, 1) := by decide +kernel
theorem dX4_takesItem_95 : decode cX4_takesItem 95 = .ok (.getfield 15, 3) := by decide +kernel
theorem dX4_takesItem_98 : decode cX4_takesItem 98 = .ok (.iconst 1, 1) := by decide +kernel
theorem dX4_takesItem_99 : decode cX4_takesItem 99 = .ok (.iadd, 1) := by decide +kernel
theorem dX4_takesItem_100 : decode cX4_takesItem 100 = .ok (.putfield 15, 3) := by decide +kernel
theorem dX4_takesItem_103 : decode cX4_takesItem 103 = .ok (.iinc 5 1, 3) := by decide +kernel
theorem dX4_takesItem_106 : decode cX4_takesItem 106 = .ok (.goto (-78), 3) := by decide +kernel
theorem dX4_takesItem_109 : decode cX4_takesItem 109 = .ok (.aload_n 2, 1) := by decide +kernel
theorem dX4_takesItem_110 : decode cX4_takesItem 110 = .ok (.iload_n 3, 1) := by decide +kernel
theorem dX4_takesItem_111 : decode cX4_takesItem 111 = .ok (.aload_n 0, 1) := by decide +kernel
theorem dX4_takesItem_112 : decode cX4_takesItem 112 = .ok (.getfield 9, 3) := by decide +kernel
theorem dX4_takesItem_115 : decode cX4_takesItem 115 = .ok (.iconst 0, 1) := by decide +kernel
theorem dX4_takesItem_116 : decode cX4_takesItem 116 = .ok (.invokestatic 51, 3) := by decide +kernel
theorem dX4_takesItem_119 : decode cX4_takesItem 119 = .ok (.aload_n 0, 1) := by decide +kernel
theorem dX4_takesItem_120 : decode cX4_takesItem 120 = .ok (.getfield 9, 3) := by decide +kernel
theorem dX4_takesItem_123 : decode cX4_takesItem 123 = .ok (.iconst 1, 1) := by decide +kernel
theorem dX4_takesItem_124 : decode cX4_takesItem 124 = .ok (.invokestatic 51, 3) := by decide +kernel
theorem dX4_takesItem_127 : decode cX4_takesItem 127 = .ok (.aload_n 0, 1) := by decide +kernel
theorem dX4_takesItem_128 : decode cX4_takesItem 128 = .ok (.getfield 9, 3) := by decide +kernel
theorem dX4_takesItem_131 : decode cX4_takesItem 131 = .ok (.iconst 2, 1) := by decide +kernel
theorem dX4_takesItem_132 : decode cX4_takesItem 132 = .ok (.invokestatic 51, 3) := by decide +kernel
theorem dX4_takesItem_135 : decode cX4_takesItem 135 = .ok (.invokevirtual 55, 3) := by decide +kernel
theorem dX4_takesItem_138 : decode cX4_takesItem 138 = .ok (.ireturn, 1) := by decide +kernel
theorem dX4_numbersBehind_0 : decode cX4_numbersBehind 0 = .ok (.iload_n 0, 1) := by decide +kernel
theorem dX4_numbersBehind_1 : decode cX4_numbersBehind 1 = .ok (.lookupswitch 51 #[(103, 43), (114, 47), (116, 45), (119, 49)], 43) := by decide +kernel
theorem dX4_numbersBehind_44 : decode cX4_numbersBehind 44 = .ok (.iconst 1, 1) := by decide +kernel
theorem dX4_numbersBehind_45 : decode cX4_numbersBehind 45 = .ok (.ireturn, 1) := by decide +kernel
theorem dX4_numbersBehind_46 : decode cX4_numbersBehind 46 = .ok (.iconst 2, 1) := by decide +kernel
theorem dX4_numbersBehind_47 : decode cX4_numbersBehind 47 = .ok (.ireturn, 1) := by decide +kernel
theorem dX4_numbersBehind_48 : decode cX4_numbersBehind 48 = .ok (.iconst 3, 1) := by decide +kernel
theorem dX4_numbersBehind_49 : decode cX4_numbersBehind 49 = .ok (.ireturn, 1) := by decide +kernel
theorem dX4_numbersBehind_50 : decode cX4_numbersBehind 50 = .ok (.iconst 3, 1) := by decide +kernel
theorem dX4_numbersBehind_51 : decode cX4_numbersBehind 51 = .ok (.ireturn, 1) := by decide +kernel
theorem dX4_numbersBehind_52 : decode cX4_numbersBehind 52 = .ok (.iconst 0, 1) := by decide +kernel
theorem dX4_numbersBehind_53 : decode cX4_numbersBehind 53 = .ok (.ireturn, 1) := by decide +kernel
theorem dX4_readNumber_0 : decode cX4_readNumber 0 = .ok (.bipush (-4), 2) := by decide +kernel
theorem dX4_readNumber_2 : decode cX4_readNumber 2 = .ok (.istore_n 2, 1) := by decide +kernel
theorem dX4_readNumber_3 : decode cX4_readNumber 3 = .ok (.iconst 0, 1) := by decide +kernel
theorem dX4_readNumber_4 : decode cX4_readNumber 4 = .ok (.istore_n 3, 1) := by decide +kernel
theorem dX4_readNumber_5 : decode cX4_readNumber 5 = .ok (.iload_n 3, 1) := by decide +kernel
theorem dX4_readNumber_6 : decode cX4_readNumber 6 = .ok (.iconst 2, 1) := by decide +kernel
theorem dX4_readNumber_7 : decode cX4_readNumber 7 = .ok (.if_icmp .ge 64, 3) := by decide +kernel
theorem dX4_readNumber_10 : decode cX4_readNumber 10 = .ok (.aload_n 1, 1) := by decide +kernel
theorem dX4_readNumber_11 : decode cX4_readNumber 11 = .ok (.aload_n 0, 1) := by decide +kernel
theorem dX4_readNumber_12 : decode cX4_readNumber 12 = .ok (.getfield 15, 3) := by decide +kernel
theorem dX4_readNumber_15 : decode cX4_readNumber 15 = .ok (.invokevirtual 36, 3) := by decide +kernel
theorem dX4_readNumber_18 : decode cX4_readNumber 18 = .ok (.bipush 48, 2) := by decide +kernel
theorem dX4_readNumber_20 : decode cX4_readNumber 20 = .ok (.isub, 1) := by decide +kernel
theorem dX4_readNumber_21 : decode cX4_readNumber 21 = .ok (.istore 4, 2) := by decide +kernel
theorem dX4_readNumber_23 : decode cX4_readNumber 23 = .ok (.iload 4, 2) := by decide +kernel
theorem dX4_readNumber_25 : decode cX4_readNumber 25 = .ok (.iconst 0, 1) := by decide +kernel
theorem dX4_readNumber_26 : decode cX4_readNumber 26 = .ok (.bipush 9, 2) := by decide +kernel
theorem dX4_readNumber_28 : decode cX4_readNumber 28 = .ok (.invokestatic 59, 3) := by decide +kernel
theorem dX4_readNumber_31 : decode cX4_readNumber 31 = .ok (.ifCond .ne 5, 3) := by decide +kernel
theorem dX4_readNumber_34 : decode cX4_readNumber 34 = .ok (.iload_n 2, 1) := by decide +kernel
theorem dX4_readNumber_35 : decode cX4_readNumber 35 = .ok (.ireturn, 1) := by decide +kernel
theorem dX4_readNumber_36 : decode cX4_readNumber 36 = .ok (.iload_n 2, 1) := by decide +kernel
theorem dX4_readNumber_37 : decode cX4_readNumber 37 = .ok (.bipush (-4), 2) := by decide +kernel
theorem dX4_readNumber_39 : decode cX4_readNumber 39 = .ok (.if_icmp .ne 8, 3) := by decide +kernel
theorem dX4_readNumber_42 : decode cX4_readNumber 42 = .ok (.iload 4, 2) := by decide +kernel
theorem dX4_readNumber_44 : decode cX4_readNumber 44 = .ok (.goto 10, 3) := by decide +kernel
theorem dX4_readNumber_47 : decode cX4_readNumber 47 = .ok (.bipush 10, 2) := by decide +kernel
theorem dX4_readNumber_49 : decode cX4_readNumber 49 = .ok (.iload_n 2, 1) := by decide +kernel
theorem dX4_readNumber_50 : decode cX4_readNumber 50 = .ok (.imul, 1) := by decide +kernel
theorem dX4_readNumber_51 : decode cX4_readNumber 51 = .ok (.iload 4, 2) := by decide +kernel
theorem dX4_readNumber_53 : decode cX4_readNumber 53 = .ok (.iadd, 1) := by decide +kernel
theorem dX4_readNumber_54 : decode cX4_readNumber 54 = .ok (.istore_n 2, 1) := by decide +kernel
theorem dX4_readNumber_55 : decode cX4_readNumber 55 = .ok (.aload_n 0, 1) := by decide +kernel
theorem dX4_readNumber_56 : decode cX4_readNumber 56 = .ok (.dup, 1) := by decide +kernel
theorem dX4_readNumber_57 : decode cX4_readNumber 57 = .ok (.getfield 15, 3) := by decide +kernel
theorem dX4_readNumber_60 : decode cX4_readNumber 60 = .ok (.iconst 1, 1) := by decide +kernel
theorem dX4_readNumber_61 : decode cX4_readNumber 61 = .ok (.iadd, 1) := by decide +kernel
theorem dX4_readNumber_62 : decode cX4_readNumber 62 = .ok (.putfield 15, 3) := by decide +kernel
theorem dX4_readNumber_65 : decode cX4_readNumber 65 = .ok (.iinc 3 1, 3) := by decide +kernel
theorem dX4_readNumber_68 : decode cX4_readNumber 68 = .ok (.goto (-63), 3) := by decide +kernel
theorem dX4_readNumber_71 : decode cX4_readNumber 71 = .ok (.iload_n 2, 1) := by decide +kernel
theorem dX4_readNumber_72 : decode cX4_readNumber 72 = .ok (.ireturn, 1) := by decide +kernel
theorem dX5_init_0 : decode cX5_init 0 = .ok (.aload_n 0, 1) := by decide +kernel
theorem dX5_init_1 : decode cX5_init 1 = .ok (.invokespecial 3, 3) := by decide +kernel
theorem dX5_init_4 : decode cX5_init 4 = .ok (.aload_n 0, 1) := by decide +kernel
theorem dX5_init_5 : decode cX5_init 5 = .ok (.bipush 6, 2) := by decide +kernel
theorem dX5_init_7 : decode cX5_init 7 = .ok (.newarray .int, 2) := by decide +kernel
theorem dX5_init_9 : decode cX5_init 9 = .ok (.putfield 9, 3) := by decide +kernel
theorem dX5_init_12 : decode cX5_init 12 = .ok (.aload_n 0, 1) := by decide +kernel
theorem dX5_init_13 : decode cX5_init 13 = .ok (.bipush 6, 2) := by decide +kernel
theorem dX5_init_15 : decode cX5_init 15 = .ok (.newarray .int, 2) := by decide +kernel
theorem dX5_init_17 : decode cX5_init 17 = .ok (.putfield 15, 3) := by decide +kernel
theorem dX5_init_20 : decode cX5_init 20 = .ok (.aload_n 0, 1) := by decide +kernel
theorem dX5_init_21 : decode cX5_init 21 = .ok (.bipush 6, 2) := by decide +kernel
theorem dX5_init_23 : decode cX5_init 23 = .ok (.newarray .int, 2) := by decide +kernel
theorem dX5_init_25 : decode cX5_init 25 = .ok (.putfield 18, 3) := by decide +kernel
theorem dX5_init_28 : decode cX5_init 28 = .ok (.aload_n 0, 1) := by decide +kernel
theorem dX5_init_29 : decode cX5_init 29 = .ok (.bipush 6, 2) := by decide +kernel
theorem dX5_init_31 : decode cX5_init 31 = .ok (.newarray .int, 2) := by decide +kernel
theorem dX5_init_33 : decode cX5_init 33 = .ok (.putfield 21, 3) := by decide +kernel
theorem dX5_init_36 : decode cX5_init 36 = .ok (.aload_n 0, 1) := by decide +kernel
theorem dX5_init_37 : decode cX5_init 37 = .ok (.iconst 0, 1) := by decide +kernel
theorem dX5_init_38 : decode cX5_init 38 = .ok (.putfield 24, 3) := by decide +kernel
theorem dX5_init_41 : decode cX5_init 41 = .ok (.return_, 1) := by decide +kernel
theorem dX5_clear_0 : decode cX5_clear 0 = .ok (.aload_n 0, 1) := by decide +kernel
theorem dX5_clear_1 : decode cX5_clear 1 = .ok (.iconst 0, 1) := by decide +kernel
theorem dX5_clear_2 : decode cX5_clear 2 = .ok (.putfield 24, 3) := by decide +kernel
theorem dX5_clear_5 : decode cX5_clear 5 = .ok (.return_, 1) := by decide +kernel
theorem dX5_add_0 : decode cX5_add 0 = .ok (.aload_n 0, 1) := by decide +kernel
theorem dX5_add_1 : decode cX5_add 1 = .ok (.getfield 24, 3) := by decide +kernel
theorem dX5_add_4 : decode cX5_add 4 = .ok (.bipush 6, 2) := by decide +kernel
theorem dX5_add_6 : decode cX5_add 6 = .ok (.if_icmp .lt 4, 3) := by decide +kernel
theorem dX5_add_9 : decode cX5_add 9 = .ok (.return_, 1) := by decide +kernel
theorem dX5_add_10 : decode cX5_add 10 = .ok (.aload_n 0, 1) := by decide +kernel
theorem dX5_add_11 : decode cX5_add 11 = .ok (.getfield 9, 3) := by decide +kernel
theorem dX5_add_14 : decode cX5_add 14 = .ok (.aload_n 0, 1) := by decide +kernel
theorem dX5_add_15 : decode cX5_add 15 = .ok (.getfield 24, 3) := by decide +kernel
theorem dX5_add_18 : decode cX5_add 18 = .ok (.iload_n 1, 1) := by decide +kernel
theorem dX5_add_19 : decode cX5_add 19 = .ok (.invokestatic 28, 3) := by decide +kernel
theorem dX5_add_22 : decode cX5_add 22 = .ok (.aload_n 0, 1) := by decide +kernel
theorem dX5_add_23 : decode cX5_add 23 = .ok (.getfield 15, 3) := by decide +kernel
theorem dX5_add_26 : decode cX5_add 26 = .ok (.aload_n 0, 1) := by decide +kernel
theorem dX5_add_27 : decode cX5_add 27 = .ok (.getfield 24, 3) := by decide +kernel
theorem dX5_add_30 : decode cX5_add 30 = .ok (.iload_n 2, 1) := by decide +kernel
theorem dX5_add_31 : decode cX5_add 31 = .ok (.invokestatic 28, 3) := by decide +kernel
theorem dX5_add_34 : decode cX5_add 34 = .ok (.aload_n 0, 1) := by decide +kernel
theorem dX5_add_35 : decode cX5_add 35 = .ok (.getfield 18, 3) := by decide +kernel
theorem dX5_add_38 : decode cX5_add 38 = .ok (.aload_n 0, 1) := by decide +kernel
theorem dX5_add_39 : decode cX5_add 39 = .ok (.getfield 24, 3) := by decide +kernel
theorem dX5_add_42 : decode cX5_add 42 = .ok (.iload_n 3, 1) := by decide +kernel
theorem dX5_add_43 : decode cX5_add 43 = .ok (.invokestatic 28, 3) := by decide +kernel
theorem dX5_add_46 : decode cX5_add 46 = .ok (.aload_n 0, 1) := by decide +kernel
theorem dX5_add_47 : decode cX5_add 47 = .ok (.getfield 21, 3) := by decide +kernel
theorem dX5_add_50 : decode cX5_add 50 = .ok (.aload_n 0, 1) := by decide +kernel
theorem dX5_add_51 : decode cX5_add 51 = .ok (.getfield 24, 3) := by decide +kernel
theorem dX5_add_54 : decode cX5_add 54 = .ok (.iload 4, 2) := by decide +kernel
theorem dX5_add_56 : decode cX5_add 56 = .ok (.invokestatic 28, 3) := by decide +kernel
theorem dX5_add_59 : decode cX5_add 59 = .ok (.aload_n 0, 1) := by decide +kernel
theorem dX5_add_60 : decode cX5_add 60 = .ok (.dup, 1) := by decide +kernel
theorem dX5_add_61 : decode cX5_add 61 = .ok (.getfield 24, 3) := by decide +kernel
theorem dX5_add_64 : decode cX5_add 64 = .ok (.iconst 1, 1) := by decide +kernel
theorem dX5_add_65 : decode cX5_add 65 = .ok (.iadd, 1) := by decide +kernel
theorem dX5_add_66 : decode cX5_add 66 = .ok (.putfield 24, 3) := by decide +kernel
theorem dX5_add_69 : decode cX5_add 69 = .ok (.return_, 1) := by decide +kernel
theorem dX6_init_0 : decode cX6_init 0 = .ok (.aload_n 0, 1) := by decide +kernel
theorem dX6_init_1 : decode cX6_init 1 = .ok (.invokespecial 3, 3) := by decide +kernel
theorem dX6_init_4 : decode cX6_init 4 = .ok (.aload_n 0, 1) := by decide +kernel
theorem dX6_init_5 : decode cX6_init 5 = .ok (.bipush 8, 2) := by decide +kernel
theorem dX6_init_7 : decode cX6_init 7 = .ok (.newarray .int, 2) := by decide +kernel
theorem dX6_init_9 : decode cX6_init 9 = .ok (.putfield 9, 3) := by decide +kernel
theorem dX6_init_12 : decode cX6_init 12 = .ok (.aload_n 0, 1) := by decide +kernel
theorem dX6_init_13 : decode cX6_init 13 = .ok (.bipush 8, 2) := by decide +kernel
theorem dX6_init_15 : decode cX6_init 15 = .ok (.newarray .int, 2) := by decide +kernel
theorem dX6_init_17 : decode cX6_init 17 = .ok (.putfield 15, 3) := by decide +kernel
theorem dX6_init_20 : decode cX6_init 20 = .ok (.aload_n 0, 1) := by decide +kernel
theorem dX6_init_21 : decode cX6_init 21 = .ok (.bipush 8, 2) := by decide +kernel
theorem dX6_init_23 : decode cX6_init 23 = .ok (.newarray .int, 2) := by decide +kernel
theorem dX6_init_25 : decode cX6_init 25 = .ok (.putfield 18, 3) := by decide +kernel
theorem dX6_init_28 : decode cX6_init 28 = .ok (.aload_n 0, 1) := by decide +kernel
theorem dX6_init_29 : decode cX6_init 29 = .ok (.bipush 8, 2) := by decide +kernel
theorem dX6_init_31 : decode cX6_init 31 = .ok (.newarray .int, 2) := by decide +kernel
theorem dX6_init_33 : decode cX6_init 33 = .ok (.putfield 21, 3) := by decide +kernel
theorem dX6_init_36 : decode cX6_init 36 = .ok (.aload_n 0, 1) := by decide +kernel
theorem dX6_init_37 : decode cX6_init 37 = .ok (.bipush 8, 2) := by decide +kernel
theorem dX6_init_39 : decode cX6_init 39 = .ok (.newarray .int, 2) := by decide +kernel
theorem dX6_init_41 : decode cX6_init 41 = .ok (.putfield 24, 3) := by decide +kernel
theorem dX6_init_44 : decode cX6_init 44 = .ok (.aload_n 0, 1) := by decide +kernel
theorem dX6_init_45 : decode cX6_init 45 = .ok (.bipush 8, 2) := by decide +kernel
theorem dX6_init_47 : decode cX6_init 47 = .ok (.newarray .int, 2) := by decide +kernel
theorem dX6_init_49 : decode cX6_init 49 = .ok (.putfield 27, 3) := by decide +kernel
theorem dX6_init_52 : decode cX6_init 52 = .ok (.aload_n 0, 1) := by decide +kernel
theorem dX6_init_53 : decode cX6_init 53 = .ok (.iconst 0, 1) := by decide +kernel
theorem dX6_init_54 : decode cX6_init 54 = .ok (.putfield 30, 3) := by decide +kernel
theorem dX6_init_57 : decode cX6_init 57 = .ok (.return_, 1) := by decide +kernel
theorem dX6_clear_0 : decode cX6_clear 0 = .ok (.aload_n 0, 1) := by decide +kernel
theorem dX6_clear_1 : decode cX6_clear 1 = .ok (.iconst 0, 1) := by decide +kernel
theorem dX6_clear_2 : decode cX6_clear 2 = .ok (.putfield 30, 3) := by decide +kernel
theorem dX6_clear_5 : decode cX6_clear 5 = .ok (.return_, 1) := by decide +kernel
theorem dX6_rememberWalk_0 : decode cX6_rememberWalk 0 = .ok (.aload_n 0, 1) := by decide +kernel
theorem dX6_rememberWalk_1 : decode cX6_rememberWalk 1 = .ok (.invokevirtual 34, 3) := by decide +kernel
theorem dX6_rememberWalk_4 : decode cX6_rememberWalk 4 = .ok (.aload_n 0, 1) := by decide +kernel
theorem dX6_rememberWalk_5 : decode cX6_rememberWalk 5 = .ok (.getfield 9, 3) := by decide +kernel
theorem dX6_rememberWalk_8 : decode cX6_rememberWalk 8 = .ok (.aload_n 0, 1) := by decide +kernel
theorem dX6_rememberWalk_9 : decode cX6_rememberWalk 9 = .ok (.getfield 30, 3) := by decide +kernel
theorem dX6_rememberWalk_12 : decode cX6_rememberWalk 12 = .ok (.iconst (-1), 1) := by decide +kernel
theorem dX6_rememberWalk_13 : decode cX6_rememberWalk 13 = .ok (.invokestatic 37, 3) := by decide +kernel
theorem dX6_rememberWalk_16 : decode cX6_rememberWalk 16 = .ok (.aload_n 0, 1) := by decide +kernel
theorem dX6_rememberWalk_17 : decode cX6_rememberWalk 17 = .ok (.getfield 27, 3) := by decide +kernel
theorem dX6_rememberWalk_20 : decode cX6_rememberWalk 20 = .ok (.aload_n 0, 1) := by decide +kernel
theorem dX6_rememberWalk_21 : decode cX6_rememberWalk 21 = .ok (.getfield 30, 3) := by decide +kernel
theorem dX6_rememberWalk_24 : decode cX6_rememberWalk 24 = .ok (.iload_n 1, 1) := by decide +kernel
theorem dX6_rememberWalk_25 : decode cX6_rememberWalk 25 = .ok (.invokestatic 37, 3) := by decide +kernel
theorem dX6_rememberWalk_28 : decode cX6_rememberWalk 28 = .ok (.aload_n 0, 1) := by decide +kernel
theorem dX6_rememberWalk_29 : decode cX6_rememberWalk 29 = .ok (.dup, 1) := by decide +kernel
theorem dX6_rememberWalk_30 : decode cX6_rememberWalk 30 = .ok (.getfield 30, 3) := by decide +kernel
theorem dX6_rememberWalk_33 : decode cX6_rememberWalk 33 = .ok (.iconst 1, 1) := by decide +kernel
theorem dX6_rememberWalk_34 : decode cX6_rememberWalk 34 = .ok (.iadd, 1) := by decide +kernel
theorem dX6_rememberWalk_35 : decode cX6_rememberWalk 35 = .ok (.putfield 30, 3) := by decide +kernel
theorem dX6_rememberWalk_38 : decode cX6_rememberWalk 38 = .ok (.return_, 1) := by decide +kernel
theorem dX6_rememberStriking_0 : decode cX6_rememberStriking 0 = .ok (.aload_n 0, 1) := by decide +kernel
theorem dX6_rememberStriking_1 : decode cX6_rememberStriking 1 = .ok (.invokevirtual 34, 3) := by decide +kernel
theorem dX6_rememberStriking_4 : decode cX6_rememberStriking 4 = .ok (.aload_n 0, 1) := by decide +kernel
theorem dX6_rememberStriking_5 : decode cX6_rememberStriking 5 = .ok (.getfield 9, 3) := by decide +kernel
theorem dX6_rememberStriking_8 : decode cX6_rememberStriking 8 = .ok (.aload_n 0, 1) := by decide +kernel
theorem dX6_rememberStriking_9 : decode cX6_rememberStriking 9 = .ok (.getfield 30, 3) := by decide +kernel
theorem dX6_rememberStriking_12 : decode cX6_rememberStriking 12 = .ok (.iload_n 2, 1) := by decide +kernel
theorem dX6_rememberStriking_13 : decode cX6_rememberStriking 13 = .ok (.invokestatic 37, 3) := by decide +kernel
theorem dX6_rememberStriking_16 : decode cX6_rememberStriking 16 = .ok (.aload_n 0, 1) := by decide +kernel
theorem dX6_rememberStriking_17 : decode cX6_rememberStriking 17 = .ok (.getfield 15, 3) := by decide +kernel
theorem dX6_rememberStriking_20 : decode cX6_rememberStriking 20 = .ok (.aload_n 0, 1) := by decide +kernel
theorem dX6_rememberStriking_21 : decode cX6_rememberStriking 21 = .ok (.getfield 30, 3) := by decide +kernel
theorem dX6_rememberStriking_24 : decode cX6_rememberStriking 24 = .ok (.aload_n 1, 1) := by decide +kernel
theorem dX6_rememberStriking_25 : decode cX6_rememberStriking 25 = .ok (.getfield 41, 3) := by decide +kernel
theorem dX6_rememberStriking_28 : decode cX6_rememberStriking 28 = .ok (.iload_n 2, 1) := by decide +kernel
theorem dX6_rememberStriking_29 : decode cX6_rememberStriking 29 = .ok (.invokestatic 44, 3) := by decide +kernel
theorem dX6_rememberStriking_32 : decode cX6_rememberStriking 32 = .ok (.invokestatic 37, 3) := by decide +kernel
theorem dX6_rememberStriking_35 : decode cX6_rememberStriking 35 = .ok (.aload_n 0, 1) := by decide +kernel
theorem dX6_rememberStriking_36 : decode cX6_rememberStriking 36 = .ok (.getfield 18, 3) := by decide +kernel
theorem dX6_rememberStriking_39 : decode cX6_rememberStriking 39 = .ok (.aload_n 0, 1) := by decide +kernel
theorem dX6_rememberStriking_40 : decode cX6_rememberStriking 40 = .ok (.getfield 30, 3) := by decide +kernel
theorem dX6_rememberStriking_43 : decode cX6_rememberStriking 43 = .ok (.aload_n 1, 1) := by decide +kernel
theorem dX6_rememberStriking_44 : decode cX6_rememberStriking 44 = .ok (.getfield 48, 3) := by decide +kernel
theorem dX6_rememberStriking_47 : decode cX6_rememberStriking 47 = .ok (.iload_n 2, 1) := by decide +kernel
theorem dX6_rememberStriking_48 : decode cX6_rememberStriking 48 = .ok (.invokestatic 44, 3) := by decide +kernel
theorem dX6_rememberStriking_51 : decode cX6_rememberStriking 51 = .ok (.invokestatic 37, 3) := by decide +kernel
theorem dX6_rememberStriking_54 : decode cX6_rememberStriking 54 = .ok (.aload_n 0, 1) := by decide +kernel
theorem dX6_rememberStriking_55 : decode cX6_rememberStriking 55 = .ok (.getfield 21, 3) := by decide +kernel
theorem dX6_rememberStriking_58 : decode cX6_rememberStriking 58 = .ok (.aload_n 0, 1) := by decide +kernel
theorem dX6_rememberStriking_59 : decode cX6_rememberStriking 59 = .ok (.getfield 30, 3) := by decide +kernel
theorem dX6_rememberStriking_62 : decode cX6_rememberStriking 62 = .ok (.aload_n 1, 1) := by decide +kernel
theorem dX6_rememberStriking_63 : decode cX6_rememberStriking 63 = .ok (.getfield 49, 3) := by decide +kernel
theorem dX6_rememberStriking_66 : decode cX6_rememberStriking 66 = .ok (.iload_n 2, 1) := by decide +kernel
theorem dX6_rememberStriking_67 : decode cX6_rememberStriking 67 = .ok (.invokestatic 44, 3) := by decide +kernel
theorem dX6_rememberStriking_70 : decode cX6_rememberStriking 70 = .ok (.invokestatic 37, 3) := by decide +kernel
theorem dX6_rememberStriking_73 : decode cX6_rememberStriking 73 = .ok (.aload_n 0, 1) := by decide +kernel
theorem dX6_rememberStriking_74 : decode cX6_rememberStriking 74 = .ok (.getfield 24, 3) := by decide +kernel
theorem dX6_rememberStriking_77 : decode cX6_rememberStriking 77 = .ok (.aload_n 0, 1) := by decide +kernel
theorem dX6_rememberStriking_78 : decode cX6_rememberStriking 78 = .ok (.getfield 30, 3) := by decide +kernel
theorem dX6_rememberStriking_81 : decode cX6_rememberStriking 81 = .ok (.aload_n 1, 1) := by decide +kernel
theorem dX6_rememberStriking_82 : decode cX6_rememberStriking 82 = .ok (.getfield 50, 3) := by decide +kernel
theorem dX6_rememberStriking_85 : decode cX6_rememberStriking 85 = .ok (.iload_n 2, 1) := by decide +kernel
theorem dX6_rememberStriking_86 : decode cX6_rememberStriking 86 = .ok (.invokestatic 44, 3) := by decide +kernel
theorem dX6_rememberStriking_89 : decode cX6_rememberStriking 89 = .ok (.invokestatic 37, 3) := by decide +kernel
theorem dX6_rememberStriking_92 : decode cX6_rememberStriking 92 = .ok (.aload_n 0, 1) := by decide +kernel
theorem dX6_rememberStriking_93 : decode cX6_rememberStriking 93 = .ok (.dup, 1) := by decide +kernel
theorem dX6_rememberStriking_94 : decode cX6_rememberStriking 94 = .ok (.getfield 30, 3) := by decide +kernel
theorem dX6_rememberStriking_97 : decode cX6_rememberStriking 97 = .ok (.iconst 1, 1) := by decide +kernel
theorem dX6_rememberStriking_98 : decode cX6_rememberStriking 98 = .ok (.iadd, 1) := by decide +kernel
theorem dX6_rememberStriking_99 : decode cX6_rememberStriking 99 = .ok (.putfield 30, 3) := by decide +kernel
theorem dX6_rememberStriking_102 : decode cX6_rememberStriking 102 = .ok (.return_, 1) := by decide +kernel
theorem dX6_takeBack_0 : decode cX6_takeBack 0 = .ok (.aload_n 0, 1) := by decide +kernel
theorem dX6_takeBack_1 : decode cX6_takeBack 1 = .ok (.getfield 30, 3) := by decide +kernel
theorem dX6_takeBack_4 : decode cX6_takeBack 4 = .ok (.ifCond .ne 4, 3) := by decide +kernel
theorem dX6_takeBack_7 : decode cX6_takeBack 7 = .ok (.return_, 1) := by decide +kernel
theorem dX6_takeBack_8 : decode cX6_takeBack 8 = .ok (.aload_n 0, 1) := by decide +kernel
theorem dX6_takeBack_9 : decode cX6_takeBack 9 = .ok (.dup, 1) := by decide +kernel
theorem dX6_takeBack_10 : decode cX6_takeBack 10 = .ok (.getfield 30, 3) := by decide +kernel
theorem dX6_takeBack_13 : decode cX6_takeBack 13 = .ok (.iconst 1, 1) := by decide +kernel
theorem dX6_takeBack_14 : decode cX6_takeBack 14 = .ok (.isub, 1) := by decide +kernel
theorem dX6_takeBack_15 : decode cX6_takeBack 15 = .ok (.putfield 30, 3) := by decide +kernel
theorem dX6_takeBack_18 : decode cX6_takeBack 18 = .ok (.aload_n 0, 1) := by decide +kernel
theorem dX6_takeBack_19 : decode cX6_takeBack 19 = .ok (.getfield 9, 3) := by decide +kernel
theorem dX6_takeBack_22 : decode cX6_takeBack 22 = .ok (.aload_n 0, 1) := by decide +kernel
theorem dX6_takeBack_23 : decode cX6_takeBack 23 = .ok (.getfield 30, 3) := by decide +kernel
theorem dX6_takeBack_26 : decode cX6_takeBack 26 = .ok (.invokestatic 44, 3) := by decide +kernel
theorem dX6_takeBack_29 : decode cX6_takeBack 29 = .ok (.istore_n 2, 1) := by decide +kernel
theorem dX6_takeBack_30 : decode cX6_takeBack 30 = .ok (.iload_n 2, 1) := by decide +kernel
theorem dX6_takeBack_31 : decode cX6_takeBack 31 = .ok (.iconst (-1), 1) := by decide +kernel
theorem dX6_takeBack_32 : decode cX6_takeBack 32 = .ok (.if_icmp .ne 36, 3) := by decide +kernel
theorem dX6_takeBack_35 : decode cX6_takeBack 35 = .ok (.aload_n 1, 1) := by decide +kernel
theorem dX6_takeBack_36 : decode cX6_takeBack 36 = .ok (.aload_n 1, 1) := by decide +kernel
theorem dX6_takeBack_37 : decode cX6_takeBack 37 = .ok (.getfield 51, 3) := by decide +kernel
theorem dX6_takeBack_40 : decode cX6_takeBack 40 = .ok (.iconst 1, 1) := by decide +kernel
theorem dX6_takeBack_41 : decode cX6_takeBack 41 = .ok (.isub, 1) := by decide +kernel
theorem dX6_takeBack_42 : decode cX6_takeBack 42 = .ok (.invokevirtual 52, 3) := by decide +kernel
theorem dX6_takeBack_45 : decode cX6_takeBack 45 = .ok (.aload_n 1, 1) := by decide +kernel
theorem dX6_takeBack_46 : decode cX6_takeBack 46 = .ok (.dup, 1) := by decide +kernel
theorem dX6_takeBack_47 : decode cX6_takeBack 47 = .ok (.getfield 56, 3) := by decide +kernel
theorem dX6_takeBack_50 : decode cX6_takeBack 50 = .ok (.aload_n 0, 1) := by decide +kernel
theorem dX6_takeBack_51 : decode cX6_takeBack 51 = .ok (.getfield 27, 3) := by decide +kernel
theorem dX6_takeBack_54 : decode cX6_takeBack 54 = .ok (.aload_n 0, 1) := by decide +kernel
theorem dX6_takeBack_55 : decode cX6_takeBack 55 = .ok (.getfield 30, 3) := by decide +kernel
theorem dX6_takeBack_58 : decode cX6_takeBack 58 = .ok (.invokestatic 44, 3) := by decide +kernel
theorem dX6_takeBack_61 : decode cX6_takeBack 61 = .ok (.isub, 1) := by decide +kernel
theorem dX6_takeBack_62 : decode cX6_takeBack 62 = .ok (.putfield 56, 3) := by decide +kernel
theorem dX6_takeBack_65 : decode cX6_takeBack 65 = .ok (.goto 52, 3) := by decide +kernel
theorem dX6_takeBack_68 : decode cX6_takeBack 68 = .ok (.aload_n 1, 1) := by decide +kernel
theorem dX6_takeBack_69 : decode cX6_takeBack 69 = .ok (.iload_n 2, 1) := by decide +kernel
theorem dX6_takeBack_70 : decode cX6_takeBack 70 = .ok (.aload_n 0, 1) := by decide +kernel
theorem dX6_takeBack_71 : decode cX6_takeBack 71 = .ok (.getfield 15, 3) := by decide +kernel
theorem dX6_takeBack_74 : decode cX6_takeBack 74 = .ok (.aload_n 0, 1) := by decide +kernel
theorem dX6_takeBack_75 : decode cX6_takeBack 75 = .ok (.getfield 30, 3) := by decide +kernel
theorem dX6_takeBack_78 : decode cX6_takeBack 78 = .ok (.invokestatic 44, 3) := by decide +kernel
theorem dX6_takeBack_81 : decode cX6_takeBack 81 = .ok (.aload_n 0, 1) := by decide +kernel
theorem dX6_takeBack_82 : decode cX6_takeBack 82 = .ok (.getfield 18, 3) := by decide +kernel
theorem dX6_takeBack_85 : decode cX6_takeBack 85 = .ok (.aload_n 0, 1) := by decide +kernel
theorem dX6_takeBack_86 : decode cX6_takeBack 86 = .ok (.getfield 30, 3) := by decide +kernel
theorem dX6_takeBack_89 : decode cX6_takeBack 89 = .ok (.invokestatic 44, 3) := by decide +kernel
theorem dX6_takeBack_92 : decode cX6_takeBack 92 = .ok (.aload_n 0, 1) := by decide +kernel
theorem dX6_takeBack_93 : decode cX6_takeBack 93 = .ok (.getfield 21, 3) := by decide +kernel
theorem dX6_takeBack_96 : decode cX6_takeBack 96 = .ok (.aload_n 0, 1) := by decide +kernel
theorem dX6_takeBack_97 : decode cX6_takeBack 97 = .ok (.getfield 30, 3) := by decide +kernel
theorem dX6_takeBack_100 : decode cX6_takeBack 100 = .ok (.invokestatic 44, 3) := by decide +kernel
theorem dX6_takeBack_103 : decode cX6_takeBack 103 = .ok (.aload_n 0, 1) := by decide +kernel
theorem dX6_takeBack_104 : decode cX6_takeBack 104 = .ok (.getfield 24, 3) := by decide +kernel
theorem dX6_takeBack_107 : decode cX6_takeBack 107 = .ok (.aload_n 0, 1) := by decide +kernel
theorem dX6_takeBack_108 : decode cX6_takeBack 108 = .ok (.getfield 30, 3) := by decide +kernel
theorem dX6_takeBack_111 : decode cX6_takeBack 111 = .ok (.invokestatic 44, 3) := by decide +kernel
theorem dX6_takeBack_114 : decode cX6_takeBack 114 = .ok (.invokevirtual 58, 3) := by decide +kernel
theorem dX6_takeBack_117 : decode cX6_takeBack 117 = .ok (.return_, 1) := by decide +kernel
theorem dX6_makeRoom_0 : decode cX6_makeRoom 0 = .ok (.aload_n 0, 1) := by decide +kernel
theorem dX6_makeRoom_1 : decode cX6_makeRoom 1 = .ok (.getfield 30, 3) := by decide +kernel
theorem dX6_makeRoom_4 : decode cX6_makeRoom 4 = .ok (.bipush 8, 2) := by decide +kernel
theorem dX6_makeRoom_6 : decode cX6_makeRoom 6 = .ok (.if_icmp .ge 4, 3) := by decide +kernel
theorem dX6_makeRoom_9 : decode cX6_makeRoom 9 = .ok (.return_, 1) := by decide +kernel
theorem dX6_makeRoom_10 : decode cX6_makeRoom 10 = .ok (.aload_n 0, 1) := by decide +kernel
theorem dX6_makeRoom_11 : decode cX6_makeRoom 11 = .ok (.getfield 9, 3) := by decide +kernel
theorem dX6_makeRoom_14 : decode cX6_makeRoom 14 = .ok (.iconst 0, 1) := by decide +kernel
theorem dX6_makeRoom_15 : decode cX6_makeRoom 15 = .ok (.aload_n 0, 1) := by decide +kernel
theorem dX6_makeRoom_16 : decode cX6_makeRoom 16 = .ok (.getfield 30, 3) := by decide +kernel
theorem dX6_makeRoom_19 : decode cX6_makeRoom 19 = .ok (.invokestatic 62, 3) := by decide +kernel
theorem dX6_makeRoom_22 : decode cX6_makeRoom 22 = .ok (.aload_n 0, 1) := by decide +kernel
theorem dX6_makeRoom_23 : decode cX6_makeRoom 23 = .ok (.getfield 15, 3) := by decide +kernel
theorem dX6_makeRoom_26 : decode cX6_makeRoom 26 = .ok (.iconst 0, 1) := by decide +kernel
theorem dX6_makeRoom_27 : decode cX6_makeRoom 27 = .ok (.aload_n 0, 1) := by decide +kernel
theorem dX6_makeRoom_28 : decode cX6_makeRoom 28 = .ok (.getfield 30, 3) := by decide +kernel
theorem dX6_makeRoom_31 : decode cX6_makeRoom 31 = .ok (.invokestatic 62, 3) := by decide +kernel
theorem dX6_makeRoom_34 : decode cX6_makeRoom 34 = .ok (.aload_n 0, 1) := by decide +kernel
theorem dX6_makeRoom_35 : decode cX6_makeRoom 35 = .ok (.getfield 18, 3) := by decide +kernel
theorem dX6_makeRoom_38 : decode cX6_makeRoom 38 = .ok (.iconst 0, 1) := by decide +kernel
theorem dX6_makeRoom_39 : decode cX6_makeRoom 39 = .ok (.aload_n 0, 1) := by decide +kernel
theorem dX6_makeRoom_40 : decode cX6_makeRoom 40 = .ok (.getfield 30, 3) := by decide +kernel
theorem dX6_makeRoom_43 : decode cX6_makeRoom 43 = .ok (.invokestatic 62, 3) := by decide +kernel
theorem dX6_makeRoom_46 : decode cX6_makeRoom 46 = .ok (.aload_n 0, 1) := by decide +kernel
theorem dX6_makeRoom_47 : decode cX6_makeRoom 47 = .ok (.getfield 21, 3) := by decide +kernel
theorem dX6_makeRoom_50 : decode cX6_makeRoom 50 = .ok (.iconst 0, 1) := by decide +kernel
theorem dX6_makeRoom_51 : decode cX6_makeRoom 51 = .ok (.aload_n 0, 1) := by decide +kernel
theorem dX6_makeRoom_52 : decode cX6_makeRoom 52 = .ok (.getfield 30, 3) := by decide +kernel
theorem dX6_makeRoom_55 : decode cX6_makeRoom 55 = .ok (.invokestatic 62, 3) := by decide +kernel
theorem dX6_makeRoom_58 : decode cX6_makeRoom 58 = .ok (.aload_n 0, 1) := by decide +kernel
theorem dX6_makeRoom_59 : decode cX6_makeRoom 59 = .ok (.getfield 24, 3) := by decide +kernel
theorem dX6_makeRoom_62 : decode cX6_makeRoom 62 = .ok (.iconst 0, 1) := by decide +kernel
theorem dX6_makeRoom_63 : decode cX6_makeRoom 63 = .ok (.aload_n 0, 1) := by decide +kernel
theorem dX6_makeRoom_64 : decode cX6_makeRoom 64 = .ok (.getfield 30, 3) := by decide +kernel
theorem dX6_makeRoom_67 : decode cX6_makeRoom 67 = .ok (.invokestatic 62, 3) := by decide +kernel
theorem dX6_makeRoom_70 : decode cX6_makeRoom 70 = .ok (.aload_n 0, 1) := by decide +kernel
theorem dX6_makeRoom_71 : decode cX6_makeRoom 71 = .ok (.getfield 27, 3) := by decide +kernel
theorem dX6_makeRoom_74 : decode cX6_makeRoom 74 = .ok (.iconst 0, 1) := by decide +kernel
theorem dX6_makeRoom_75 : decode cX6_makeRoom 75 = .ok (.aload_n 0, 1) := by decide +kernel
theorem dX6_makeRoom_76 : decode cX6_makeRoom 76 = .ok (.getfield 30, 3) := by decide +kernel
theorem dX6_makeRoom_79 : decode cX6_makeRoom 79 = .ok (.invokestatic 62, 3) := by decide +kernel
theorem dX6_makeRoom_82 : decode cX6_makeRoom 82 = .ok (.aload_n 0, 1) := by decide +kernel
theorem dX6_makeRoom_83 : decode cX6_makeRoom 83 = .ok (.dup, 1) := by decide +kernel
theorem dX6_makeRoom_84 : decode cX6_makeRoom 84 = .ok (.getfield 30, 3) := by decide +kernel
theorem dX6_makeRoom_87 : decode cX6_makeRoom 87 = .ok (.iconst 1, 1) := by decide +kernel
theorem dX6_makeRoom_88 : decode cX6_makeRoom 88 = .ok (.isub, 1) := by decide +kernel
theorem dX6_makeRoom_89 : decode cX6_makeRoom 89 = .ok (.putfield 30, 3) := by decide +kernel
theorem dX6_makeRoom_92 : decode cX6_makeRoom 92 = .ok (.return_, 1) := by decide +kernel
