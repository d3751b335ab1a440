theorem dX4_layFirsts_67 : decode cX4_layFirsts 67 = .ok (.iadd, 1) := by decide +kernel
theorem dX4_layFirsts_68 : decode cX4_layFirsts 68 = .ok (.imul, 1) := by decide +kernel
theorem dX4_layFirsts_69 : decode cX4_layFirsts 69 = .ok (.iload_n 2, 1) := by decide +kernel
theorem dX4_layFirsts_70 : decode cX4_layFirsts 70 = .ok (.iadd, 1) := by decide +kernel
theorem dX4_layFirsts_71 : decode cX4_layFirsts 71 = .ok (.aload_n 0, 1) := by decide +kernel
theorem dX4_layFirsts_72 : decode cX4_layFirsts 72 = .ok (.getfield 22, 3) := by decide +kernel
theorem dX4_layFirsts_75 : decode cX4_layFirsts 75 = .ok (.iload_n 3, 1) := by decide +kernel
theorem dX4_layFirsts_76 : decode cX4_layFirsts 76 = .ok (.iaload, 1) := by decide +kernel
theorem dX4_layFirsts_77 : decode cX4_layFirsts 77 = .ok (.iastore, 1) := by decide +kernel
theorem dX4_layFirsts_78 : decode cX4_layFirsts 78 = .ok (.iinc 3 1, 3) := by decide +kernel
theorem dX4_layFirsts_81 : decode cX4_layFirsts 81 = .ok (.goto (-31), 3) := by decide +kernel
theorem dX4_layFirsts_84 : decode cX4_layFirsts 84 = .ok (.iinc 2 1, 3) := by decide +kernel
theorem dX4_layFirsts_87 : decode cX4_layFirsts 87 = .ok (.goto (-85), 3) := by decide +kernel
theorem dX4_layFirsts_90 : decode cX4_layFirsts 90 = .ok (.return_, 1) := by decide +kernel
theorem dX4_reckonAll_0 : decode cX4_reckonAll 0 = .ok (.aload_n 0, 1) := by decide +kernel
theorem dX4_reckonAll_1 : decode cX4_reckonAll 1 = .ok (.aload_n 0, 1) := by decide +kernel
theorem dX4_reckonAll_2 : decode cX4_reckonAll 2 = .ok (.getfield 41, 3) := by decide +kernel
theorem dX4_reckonAll_5 : decode cX4_reckonAll 5 = .ok (.invokevirtual 93, 3) := by decide +kernel
theorem dX4_reckonAll_8 : decode cX4_reckonAll 8 = .ok (.iconst 0, 1) := by decide +kernel
theorem dX4_reckonAll_9 : decode cX4_reckonAll 9 = .ok (.istore_n 1, 1) := by decide +kernel
theorem dX4_reckonAll_10 : decode cX4_reckonAll 10 = .ok (.iload_n 1, 1) := by decide +kernel
theorem dX4_reckonAll_11 : decode cX4_reckonAll 11 = .ok (.aload_n 0, 1) := by decide +kernel
theorem dX4_reckonAll_12 : decode cX4_reckonAll 12 = .ok (.getfield 90, 3) := by decide +kernel
theorem dX4_reckonAll_15 : decode cX4_reckonAll 15 = .ok (.if_icmp .ge 88, 3) := by decide +kernel
theorem dX4_reckonAll_18 : decode cX4_reckonAll 18 = .ok (.sipush 256, 3) := by decide +kernel
theorem dX4_reckonAll_21 : decode cX4_reckonAll 21 = .ok (.aload_n 0, 1) := by decide +kernel
theorem dX4_reckonAll_22 : decode cX4_reckonAll 22 = .ok (.invokevirtual 86, 3) := by decide +kernel
theorem dX4_reckonAll_25 : decode cX4_reckonAll 25 = .ok (.iload_n 1, 1) := by decide +kernel
theorem dX4_reckonAll_26 : decode cX4_reckonAll 26 = .ok (.iadd, 1) := by decide +kernel
theorem dX4_reckonAll_27 : decode cX4_reckonAll 27 = .ok (.imul, 1) := by decide +kernel
theorem dX4_reckonAll_28 : decode cX4_reckonAll 28 = .ok (.istore_n 2, 1) := by decide +kernel
theorem dX4_reckonAll_29 : decode cX4_reckonAll 29 = .ok (.iconst 0, 1) := by decide +kernel
theorem dX4_reckonAll_30 : decode cX4_reckonAll 30 = .ok (.istore_n 3, 1) := by decide +kernel
theorem dX4_reckonAll_31 : decode cX4_reckonAll 31 = .ok (.iload_n 3, 1) := by decide +kernel
theorem dX4_reckonAll_32 : decode cX4_reckonAll 32 = .ok (.aload_n 0, 1) := by decide +kernel
theorem dX4_reckonAll_33 : decode cX4_reckonAll 33 = .ok (.getfield 19, 3) := by decide +kernel
theorem dX4_reckonAll_36 : decode cX4_reckonAll 36 = .ok (.if_icmp .ge 61, 3) := by decide +kernel
theorem dX4_reckonAll_39 : decode cX4_reckonAll 39 = .ok (.aload_n 0, 1) := by decide +kernel
theorem dX4_reckonAll_40 : decode cX4_reckonAll 40 = .ok (.getfield 41, 3) := by decide +kernel
theorem dX4_reckonAll_43 : decode cX4_reckonAll 43 = .ok (.iload_n 2, 1) := by decide +kernel
theorem dX4_reckonAll_44 : decode cX4_reckonAll 44 = .ok (.iload_n 3, 1) := by decide +kernel
theorem dX4_reckonAll_45 : decode cX4_reckonAll 45 = .ok (.iadd, 1) := by decide +kernel
theorem dX4_reckonAll_46 : decode cX4_reckonAll 46 = .ok (.aload_n 0, 1) := by decide +kernel
theorem dX4_reckonAll_47 : decode cX4_reckonAll 47 = .ok (.aload_n 0, 1) := by decide +kernel
theorem dX4_reckonAll_48 : decode cX4_reckonAll 48 = .ok (.getfield 32, 3) := by decide +kernel
theorem dX4_reckonAll_51 : decode cX4_reckonAll 51 = .ok (.iload_n 1, 1) := by decide +kernel
theorem dX4_reckonAll_52 : decode cX4_reckonAll 52 = .ok (.iaload, 1) := by decide +kernel
theorem dX4_reckonAll_53 : decode cX4_reckonAll 53 = .ok (.aload_n 0, 1) := by decide +kernel
theorem dX4_reckonAll_54 : decode cX4_reckonAll 54 = .ok (.getfield 41, 3) := by decide +kernel
theorem dX4_reckonAll_57 : decode cX4_reckonAll 57 = .ok (.sipush 256, 3) := by decide +kernel
theorem dX4_reckonAll_60 : decode cX4_reckonAll 60 = .ok (.aload_n 0, 1) := by decide +kernel
theorem dX4_reckonAll_61 : decode cX4_reckonAll 61 = .ok (.getfield 35, 3) := by decide +kernel
theorem dX4_reckonAll_64 : decode cX4_reckonAll 64 = .ok (.iload_n 1, 1) := by decide +kernel
theorem dX4_reckonAll_65 : decode cX4_reckonAll 65 = .ok (.iaload, 1) := by decide +kernel
theorem dX4_reckonAll_66 : decode cX4_reckonAll 66 = .ok (.imul, 1) := by decide +kernel
theorem dX4_reckonAll_67 : decode cX4_reckonAll 67 = .ok (.iload_n 3, 1) := by decide +kernel
theorem dX4_reckonAll_68 : decode cX4_reckonAll 68 = .ok (.iadd, 1) := by decide +kernel
theorem dX4_reckonAll_69 : decode cX4_reckonAll 69 = .ok (.iaload, 1) := by decide +kernel
theorem dX4_reckonAll_70 : decode cX4_reckonAll 70 = .ok (.aload_n 0, 1) := by decide +kernel
theorem dX4_reckonAll_71 : decode cX4_reckonAll 71 = .ok (.getfield 41, 3) := by decide +kernel
theorem dX4_reckonAll_74 : decode cX4_reckonAll 74 = .ok (.sipush 256, 3) := by decide +kernel
theorem dX4_reckonAll_77 : decode cX4_reckonAll 77 = .ok (.aload_n 0, 1) := by decide +kernel
theorem dX4_reckonAll_78 : decode cX4_reckonAll 78 = .ok (.getfield 38, 3) := by decide +kernel
theorem dX4_reckonAll_81 : decode cX4_reckonAll 81 = .ok (.iload_n 1, 1) := by decide +kernel
theorem dX4_reckonAll_82 : decode cX4_reckonAll 82 = .ok (.iaload, 1) := by decide +kernel
theorem dX4_reckonAll_83 : decode cX4_reckonAll 83 = .ok (.imul, 1) := by decide +kernel
theorem dX4_reckonAll_84 : decode cX4_reckonAll 84 = .ok (.iload_n 3, 1) := by decide +kernel
theorem dX4_reckonAll_85 : decode cX4_reckonAll 85 = .ok (.iadd, 1) := by decide +kernel
theorem dX4_reckonAll_86 : decode cX4_reckonAll 86 = .ok (.iaload, 1) := by decide +kernel
theorem dX4_reckonAll_87 : decode cX4_reckonAll 87 = .ok (.invokevirtual 97, 3) := by decide +kernel
theorem dX4_reckonAll_90 : decode cX4_reckonAll 90 = .ok (.iastore, 1) := by decide +kernel
theorem dX4_reckonAll_91 : decode cX4_reckonAll 91 = .ok (.iinc 3 1, 3) := by decide +kernel
theorem dX4_reckonAll_94 : decode cX4_reckonAll 94 = .ok (.goto (-63), 3) := by decide +kernel
theorem dX4_reckonAll_97 : decode cX4_reckonAll 97 = .ok (.iinc 1 1, 3) := by decide +kernel
theorem dX4_reckonAll_100 : decode cX4_reckonAll 100 = .ok (.goto (-90), 3) := by decide +kernel
theorem dX4_reckonAll_103 : decode cX4_reckonAll 103 = .ok (.return_, 1) := by decide +kernel
theorem dX4_words_0 : decode cX4_words 0 = .ok (.iload_n 1, 1) := by decide +kernel
theorem dX4_words_1 : decode cX4_words 1 = .ok (.iconst 1, 1) := by decide +kernel
theorem dX4_words_2 : decode cX4_words 2 = .ok (.iconst 4, 1) := by decide +kernel
theorem dX4_words_3 : decode cX4_words 3 = .ok (.invokestatic 101, 3) := by decide +kernel
theorem dX4_words_6 : decode cX4_words 6 = .ok (.ifCond .eq 12, 3) := by decide +kernel
theorem dX4_words_9 : decode cX4_words 9 = .ok (.iload_n 2, 1) := by decide +kernel
theorem dX4_words_10 : decode cX4_words 10 = .ok (.iconst 1, 1) := by decide +kernel
theorem dX4_words_11 : decode cX4_words 11 = .ok (.iconst 2, 1) := by decide +kernel
theorem dX4_words_12 : decode cX4_words 12 = .ok (.invokestatic 101, 3) := by decide +kernel
theorem dX4_words_15 : decode cX4_words 15 = .ok (.ifCond .ne 6, 3) := by decide +kernel
theorem dX4_words_18 : decode cX4_words 18 = .ok (.bipush (-2), 2) := by decide +kernel
theorem dX4_words_20 : decode cX4_words 20 = .ok (.ireturn, 1) := by decide +kernel
theorem dX4_words_21 : decode cX4_words 21 = .ok (.aload_n 0, 1) := by decide +kernel
theorem dX4_words_22 : decode cX4_words 22 = .ok (.iload_n 1, 1) := by decide +kernel
theorem dX4_words_23 : decode cX4_words 23 = .ok (.putfield 7, 3) := by decide +kernel
theorem dX4_words_26 : decode cX4_words 26 = .ok (.aload_n 0, 1) := by decide +kernel
theorem dX4_words_27 : decode cX4_words 27 = .ok (.iload_n 2, 1) := by decide +kernel
theorem dX4_words_28 : decode cX4_words 28 = .ok (.putfield 13, 3) := by decide +kernel
theorem dX4_words_31 : decode cX4_words 31 = .ok (.aload_n 0, 1) := by decide +kernel
theorem dX4_words_32 : decode cX4_words 32 = .ok (.iconst 1, 1) := by decide +kernel
theorem dX4_words_33 : decode cX4_words 33 = .ok (.aload_n 0, 1) := by decide +kernel
theorem dX4_words_34 : decode cX4_words 34 = .ok (.getfield 7, 3) := by decide +kernel
theorem dX4_words_37 : decode cX4_words 37 = .ok (.ishl, 1) := by decide +kernel
theorem dX4_words_38 : decode cX4_words 38 = .ok (.iconst 1, 1) := by decide +kernel
theorem dX4_words_39 : decode cX4_words 39 = .ok (.isub, 1) := by decide +kernel
theorem dX4_words_40 : decode cX4_words 40 = .ok (.putfield 16, 3) := by decide +kernel
theorem dX4_words_43 : decode cX4_words 43 = .ok (.aload_n 0, 1) := by decide +kernel
theorem dX4_words_44 : decode cX4_words 44 = .ok (.iconst 1, 1) := by decide +kernel
theorem dX4_words_45 : decode cX4_words 45 = .ok (.aload_n 0, 1) := by decide +kernel
theorem dX4_words_46 : decode cX4_words 46 = .ok (.getfield 7, 3) := by decide +kernel
theorem dX4_words_49 : decode cX4_words 49 = .ok (.aload_n 0, 1) := by decide +kernel
theorem dX4_words_50 : decode cX4_words 50 = .ok (.getfield 13, 3) := by decide +kernel
theorem dX4_words_53 : decode cX4_words 53 = .ok (.imul, 1) := by decide +kernel
theorem dX4_words_54 : decode cX4_words 54 = .ok (.ishl, 1) := by decide +kernel
theorem dX4_words_55 : decode cX4_words 55 = .ok (.putfield 19, 3) := by decide +kernel
theorem dX4_words_58 : decode cX4_words 58 = .ok (.aload_n 0, 1) := by decide +kernel
theorem dX4_words_59 : decode cX4_words 59 = .ok (.iconst 0, 1) := by decide +kernel
theorem dX4_words_60 : decode cX4_words 60 = .ok (.putfield 83, 3) := by decide +kernel
theorem dX4_words_63 : decode cX4_words 63 = .ok (.aload_n 0, 1) := by decide +kernel
theorem dX4_words_64 : decode cX4_words 64 = .ok (.iconst 0, 1) := by decide +kernel
theorem dX4_words_65 : decode cX4_words 65 = .ok (.putfield 90, 3) := by decide +kernel
theorem dX4_words_68 : decode cX4_words 68 = .ok (.aload_n 0, 1) := by decide +kernel
theorem dX4_words_69 : decode cX4_words 69 = .ok (.iconst 0, 1) := by decide +kernel
theorem dX4_words_70 : decode cX4_words 70 = .ok (.putfield 105, 3) := by decide +kernel
theorem dX4_words_73 : decode cX4_words 73 = .ok (.aload_n 0, 1) := by decide +kernel
theorem dX4_words_74 : decode cX4_words 74 = .ok (.iconst 0, 1) := by decide +kernel
theorem dX4_words_75 : decode cX4_words 75 = .ok (.putfield 108, 3) := by decide +kernel
theorem dX4_words_78 : decode cX4_words 78 = .ok (.iconst 0, 1) := by decide +kernel
theorem dX4_words_79 : decode cX4_words 79 = .ok (.istore_n 3, 1) := by decide +kernel
theorem dX4_words_80 : decode cX4_words 80 = .ok (.iload_n 3, 1) := by decide +kernel
theorem dX4_words_81 : decode cX4_words 81 = .ok (.sipush 256, 3) := by decide +kernel
theorem dX4_words_84 : decode cX4_words 84 = .ok (.if_icmp .ge 16, 3) := by decide +kernel
theorem dX4_words_87 : decode cX4_words 87 = .ok (.aload_n 0, 1) := by decide +kernel
theorem dX4_words_88 : decode cX4_words 88 = .ok (.getfield 29, 3) := by decide +kernel
theorem dX4_words_91 : decode cX4_words 91 = .ok (.iload_n 3, 1) := by decide +kernel
theorem dX4_words_92 : decode cX4_words 92 = .ok (.iconst 0, 1) := by decide +kernel
theorem dX4_words_93 : decode cX4_words 93 = .ok (.iastore, 1) := by decide +kernel
theorem dX4_words_94 : decode cX4_words 94 = .ok (.iinc 3 1, 3) := by decide +kernel
theorem dX4_words_97 : decode cX4_words 97 = .ok (.goto (-17), 3) := by decide +kernel
theorem dX4_words_100 : decode cX4_words 100 = .ok (.aload_n 0, 1) := by decide +kernel
theorem dX4_words_101 : decode cX4_words 101 = .ok (.invokevirtual 80, 3) := by decide +kernel
theorem dX4_words_104 : decode cX4_words 104 = .ok (.aload_n 0, 1) := by decide +kernel
theorem dX4_words_105 : decode cX4_words 105 = .ok (.getfield 19, 3) := by decide +kernel
theorem dX4_words_108 : decode cX4_words 108 = .ok (.ireturn, 1) := by decide +kernel
theorem dX4_constant_0 : decode cX4_constant 0 = .ok (.iload_n 1, 1) := by decide +kernel
theorem dX4_constant_1 : decode cX4_constant 1 = .ok (.iconst 0, 1) := by decide +kernel
theorem dX4_constant_2 : decode cX4_constant 2 = .ok (.aload_n 0, 1) := by decide +kernel
theorem dX4_constant_3 : decode cX4_constant 3 = .ok (.getfield 16, 3) := by decide +kernel
theorem dX4_constant_6 : decode cX4_constant 6 = .ok (.invokestatic 101, 3) := by decide +kernel
theorem dX4_constant_9 : decode cX4_constant 9 = .ok (.ifCond .ne 6, 3) := by decide +kernel
theorem dX4_constant_12 : decode cX4_constant 12 = .ok (.bipush (-2), 2) := by decide +kernel
theorem dX4_constant_14 : decode cX4_constant 14 = .ok (.ireturn, 1) := by decide +kernel
theorem dX4_constant_15 : decode cX4_constant 15 = .ok (.aload_n 0, 1) := by decide +kernel
theorem dX4_constant_16 : decode cX4_constant 16 = .ok (.getfield 90, 3) := by decide +kernel
theorem dX4_constant_19 : decode cX4_constant 19 = .ok (.ifCond .le 6, 3) := by decide +kernel
theorem dX4_constant_22 : decode cX4_constant 22 = .ok (.bipush (-3), 2) := by decide +kernel
theorem dX4_constant_24 : decode cX4_constant 24 = .ok (.ireturn, 1) := by decide +kernel
theorem dX4_constant_25 : decode cX4_constant 25 = .ok (.aload_n 0, 1) := by decide +kernel
theorem dX4_constant_26 : decode cX4_constant 26 = .ok (.getfield 83, 3) := by decide +kernel
theorem dX4_constant_29 : decode cX4_constant 29 = .ok (.iconst 4, 1) := by decide +kernel
theorem dX4_constant_30 : decode cX4_constant 30 = .ok (.if_icmp .ne 6, 3) := by decide +kernel
theorem dX4_constant_33 : decode cX4_constant 33 = .ok (.bipush (-4), 2) := by decide +kernel
theorem dX4_constant_35 : decode cX4_constant 35 = .ok (.ireturn, 1) := by decide +kernel
theorem dX4_constant_36 : decode cX4_constant 36 = .ok (.aload_n 0, 1) := by decide +kernel
theorem dX4_constant_37 : decode cX4_constant 37 = .ok (.getfield 22, 3) := by decide +kernel
theorem dX4_constant_40 : decode cX4_constant 40 = .ok (.aload_n 0, 1) := by decide +kernel
theorem dX4_constant_41 : decode cX4_constant 41 = .ok (.getfield 83, 3) := by decide +kernel
theorem dX4_constant_44 : decode cX4_constant 44 = .ok (.iload_n 1, 1) := by decide +kernel
theorem dX4_constant_45 : decode cX4_constant 45 = .ok (.iastore, 1) := by decide +kernel
theorem dX4_constant_46 : decode cX4_constant 46 = .ok (.aload_n 0, 1) := by decide +kernel
theorem dX4_constant_47 : decode cX4_constant 47 = .ok (.dup, 1) := by decide +kernel
theorem dX4_constant_48 : decode cX4_constant 48 = .ok (.getfield 83, 3) := by decide +kernel
theorem dX4_constant_51 : decode cX4_constant 51 = .ok (.iconst 1, 1) := by decide +kernel
theorem dX4_constant_52 : decode cX4_constant 52 = .ok (.iadd, 1) := by decide +kernel
theorem dX4_constant_53 : decode cX4_constant 53 = .ok (.putfield 83, 3) := by decide +kernel
theorem dX4_constant_56 : decode cX4_constant 56 = .ok (.aload_n 0, 1) := by decide +kernel
theorem dX4_constant_57 : decode cX4_constant 57 = .ok (.iconst 0, 1) := by decide +kernel
theorem dX4_constant_58 : decode cX4_constant 58 = .ok (.putfield 108, 3) := by decide +kernel
theorem dX4_constant_61 : decode cX4_constant 61 = .ok (.aload_n 0, 1) := by decide +kernel
theorem dX4_constant_62 : decode cX4_constant 62 = .ok (.invokevirtual 80, 3) := by decide +kernel
theorem dX4_constant_65 : decode cX4_constant 65 = .ok (.aload_n 0, 1) := by decide +kernel
theorem dX4_constant_66 : decode cX4_constant 66 = .ok (.invokevirtual 86, 3) := by decide +kernel
theorem dX4_constant_69 : decode cX4_constant 69 = .ok (.iconst 1, 1) := by decide +kernel
theorem dX4_constant_70 : decode cX4_constant 70 = .ok (.isub, 1) := by decide +kernel
theorem dX4_constant_71 : decode cX4_constant 71 = .ok (.ireturn, 1) := by decide +kernel
theorem dX4_cost_0 : decode cX4_cost 0 = .ok (.iload_n 1, 1) := by decide +kernel
theorem dX4_cost_1 : decode cX4_cost 1 = .ok (.iconst 0, 1) := by decide +kernel
theorem dX4_cost_2 : decode cX4_cost 2 = .ok (.bipush 12, 2) := by decide +kernel
theorem dX4_cost_4 : decode cX4_cost 4 = .ok (.invokestatic 101, 3) := by decide +kernel
theorem dX4_cost_7 : decode cX4_cost 7 = .ok (.ifCond .ne 5, 3) := by decide +kernel
theorem dX4_cost_10 : decode cX4_cost 10 = .ok (.iconst (-1), 1) := by decide +kernel
theorem dX4_cost_11 : decode cX4_cost 11 = .ok (.ireturn, 1) := by decide +kernel
theorem dX4_cost_12 : decode cX4_cost 12 = .ok (.iload_n 2, 1) := by decide +kernel
theorem dX4_cost_13 : decode cX4_cost 13 = .ok (.iconst 0, 1) := by decide +kernel
theorem dX4_cost_14 : decode cX4_cost 14 = .ok (.bipush 9, 2) := by decide +kernel
theorem dX4_cost_16 : decode cX4_cost 16 = .ok (.invokestatic 101, 3) := by decide +kernel
theorem dX4_cost_19 : decode cX4_cost 19 = .ok (.ifCond .ne 6, 3) := by decide +kernel
theorem dX4_cost_22 : decode cX4_cost 22 = .ok (.bipush (-2), 2) := by decide +kernel
theorem dX4_cost_24 : decode cX4_cost 24 = .ok (.ireturn, 1) := by decide +kernel
theorem dX4_cost_25 : decode cX4_cost 25 = .ok (.aload_n 0, 1) := by decide +kernel
theorem dX4_cost_26 : decode cX4_cost 26 = .ok (.getfield 26, 3) := by decide +kernel
theorem dX4_cost_29 : decode cX4_cost 29 = .ok (.iload_n 1, 1) := by decide +kernel
theorem dX4_cost_30 : decode cX4_cost 30 = .ok (.iaload, 1) := by decide +kernel
theorem dX4_cost_31 : decode cX4_cost 31 = .ok (.istore_n 3, 1) := by decide +kernel
theorem dX4_cost_32 : decode cX4_cost 32 = .ok (.aload_n 0, 1) := by decide +kernel
theorem dX4_cost_33 : decode cX4_cost 33 = .ok (.getfield 26, 3) := by decide +kernel
theorem dX4_cost_36 : decode cX4_cost 36 = .ok (.iload_n 1, 1) := by decide +kernel
theorem dX4_cost_37 : decode cX4_cost 37 = .ok (.iload_n 2, 1) := by decide +kernel
theorem dX4_cost_38 : decode cX4_cost 38 = .ok (.iastore, 1) := by decide +kernel
theorem dX4_cost_39 : decode cX4_cost 39 = .ok (.iload_n 3, 1) := by decide +kernel
theorem dX4_cost_40 : decode cX4_cost 40 = .ok (.ireturn, 1) := by decide +kernel
theorem dX4_isAssignment_0 : decode cX4_isAssignment 0 = .ok (.iload_n 1, 1) := by decide +kernel
theorem dX4_isAssignment_1 : decode cX4_isAssignment 1 = .ok (.iconst 0, 1) := by decide +kernel
theorem dX4_isAssignment_2 : decode cX4_isAssignment 2 = .ok (.aload_n 0, 1) := by decide +kernel
theorem dX4_isAssignment_3 : decode cX4_isAssignment 3 = .ok (.getfield 19, 3) := by decide +kernel
theorem dX4_isAssignment_6 : decode cX4_isAssignment 6 = .ok (.iconst 1, 1) := by decide +kernel
theorem dX4_isAssignment_7 : decode cX4_isAssignment 7 = .ok (.isub, 1) := by decide +kernel
theorem dX4_isAssignment_8 : decode cX4_isAssignment 8 = .ok (.invokestatic 101, 3) := by decide +kernel
theorem dX4_isAssignment_11 : decode cX4_isAssignment 11 = .ok (.ireturn, 1) := by decide +kernel
theorem dX4_target_0 : decode cX4_target 0 = .ok (.aload_n 0, 1) := by decide +kernel
theorem dX4_target_1 : decode cX4_target 1 = .ok (.iload_n 1, 1) := by decide +kernel
theorem dX4_target_2 : decode cX4_target 2 = .ok (.invokevirtual 112, 3) := by decide +kernel
theorem dX4_target_5 : decode cX4_target 5 = .ok (.ifCond .ne 5, 3) := by decide +kernel
theorem dX4_target_8 : decode cX4_target 8 = .ok (.iconst (-1), 1) := by decide +kernel
theorem dX4_target_9 : decode cX4_target 9 = .ok (.ireturn, 1) := by decide +kernel
theorem dX4_target_10 : decode cX4_target 10 = .ok (.iload_n 2, 1) := by decide +kernel
theorem dX4_target_11 : decode cX4_target 11 = .ok (.iconst 0, 1) := by decide +kernel
theorem dX4_target_12 : decode cX4_target 12 = .ok (.aload_n 0, 1) := by decide +kernel
theorem dX4_target_13 : decode cX4_target 13 = .ok (.getfield 16, 3) := by decide +kernel
theorem dX4_target_16 : decode cX4_target 16 = .ok (.invokestatic 101, 3) := by decide +kernel
theorem dX4_target_19 : decode cX4_target 19 = .ok (.ifCond .ne 6, 3) := by decide +kernel
theorem dX4_target_22 : decode cX4_target 22 = .ok (.bipush (-2), 2) := by decide +kernel
theorem dX4_target_24 : decode cX4_target 24 = .ok (.ireturn, 1) := by decide +kernel
theorem dX4_target_25 : decode cX4_target 25 = .ok (.aload_n 0, 1) := by decide +kernel
theorem dX4_target_26 : decode cX4_target 26 = .ok (.getfield 29, 3) := by decide +kernel
theorem dX4_target_29 : decode cX4_target 29 = .ok (.iload_n 1, 1) := by decide +kernel
theorem dX4_target_30 : decode cX4_target 30 = .ok (.iaload, 1) := by decide +kernel
theorem dX4_target_31 : decode cX4_target 31 = .ok (.istore_n 3, 1) := by decide +kernel
theorem dX4_target_32 : decode cX4_target 32 = .ok (.aload_n 0, 1) := by decide +kernel
theorem dX4_target_33 : decode cX4_target 33 = .ok (.getfield 29, 3) := by decide +kernel
theorem dX4_target_36 : decode cX4_target 36 = .ok (.iload_n 1, 1) := by decide +kernel
theorem dX4_target_37 : decode cX4_target 37 = .ok (.iload_n 2, 1) := by decide +kernel
theorem dX4_target_38 : decode cX4_target 38 = .ok (.iastore, 1) := by decide +kernel
theorem dX4_target_39 : decode cX4_target 39 = .ok (.iload_n 3, 1) := by decide +kernel
theorem dX4_target_40 : decode cX4_target 40 = .ok (.ireturn, 1) := by decide +kernel
theorem dX4_aim_0 : decode cX4_aim 0 = .ok (.iconst 0, 1) := by decide +kernel
theorem dX4_aim_1 : decode cX4_aim 1 = .ok (.istore_n 1, 1) := by decide +kernel
theorem dX4_aim_2 : decode cX4_aim 2 = .ok (.iconst 0, 1) := by decide +kernel
theorem dX4_aim_3 : decode cX4_aim 3 = .ok (.istore_n 2, 1) := by decide +kernel
theorem dX4_aim_4 : decode cX4_aim 4 = .ok (.iload_n 2, 1) := by decide +kernel
theorem dX4_aim_5 : decode cX4_aim 5 = .ok (.aload_n 0, 1) := by decide +kernel
theorem dX4_aim_6 : decode cX4_aim 6 = .ok (.getfield 19, 3) := by decide +kernel
theorem dX4_aim_9 : decode cX4_aim 9 = .ok (.if_icmp .ge 50, 3) := by decide +kernel
theorem dX4_aim_12 : decode cX4_aim 12 = .ok (.aload_n 0, 1) := by decide +kernel
theorem dX4_aim_13 : decode cX4_aim 13 = .ok (.getfield 41, 3) := by decide +kernel
theorem dX4_aim_16 : decode cX4_aim 16 = .ok (.sipush 256, 3) := by decide +kernel
theorem dX4_aim_19 : decode cX4_aim 19 = .ok (.aload_n 0, 1) := by decide +kernel
theorem dX4_aim_20 : decode cX4_aim 20 = .ok (.getfield 105, 3) := by decide +kernel
theorem dX4_aim_23 : decode cX4_aim 23 = .ok (.imul, 1) := by decide +kernel
theorem dX4_aim_24 : decode cX4_aim 24 = .ok (.iload_n 2, 1) := by decide +kernel
theorem dX4_aim_25 : decode cX4_aim 25 = .ok (.iadd, 1) := by decide +kernel
theorem dX4_aim_26 : decode cX4_aim 26 = .ok (.iaload, 1) := by decide +kernel
theorem dX4_aim_27 : decode cX4_aim 27 = .ok (.istore_n 3, 1) := by decide +kernel
theorem dX4_aim_28 : decode cX4_aim 28 = .ok (.iload_n 1, 1) := by decide +kernel
theorem dX4_aim_29 : decode cX4_aim 29 = .ok (.aload_n 0, 1) := by decide +kernel
theorem dX4_aim_30 : decode cX4_aim 30 = .ok (.getfield 29, 3) := by decide +kernel
theorem dX4_aim_33 : decode cX4_aim 33 = .ok (.iload_n 2, 1) := by decide +kernel
theorem dX4_aim_34 : decode cX4_aim 34 = .ok (.iaload, 1) := by decide +kernel
theorem dX4_aim_35 : decode cX4_aim 35 = .ok (.iload_n 3, 1) := by decide +kernel
theorem dX4_aim_36 : decode cX4_aim 36 = .ok (.if_icmp .eq 7, 3) := by decide +kernel
theorem dX4_aim_39 : decode cX4_aim 39 = .ok (.iconst 1, 1) := by decide +kernel
theorem dX4_aim_40 : decode cX4_aim 40 = .ok (.goto 4, 3) := by decide +kernel
theorem dX4_aim_43 : decode cX4_aim 43 = .ok (.iconst 0, 1) := by decide +kernel
theorem dX4_aim_44 : decode cX4_aim 44 = .ok (.iadd, 1) := by decide +kernel
theorem dX4_aim_45 : decode cX4_aim 45 = .ok (.istore_n 1, 1) := by decide +kernel
theorem dX4_aim_46 : decode cX4_aim 46 = .ok (.aload_n 0, 1) := by decide +kernel
theorem dX4_aim_47 : decode cX4_aim 47 = .ok (.getfield 29, 3) := by decide +kernel
theorem dX4_aim_50 : decode cX4_aim 50 = .ok (.iload_n 2, 1) := by decide +kernel
theorem dX4_aim_51 : decode cX4_aim 51 = .ok (.iload_n 3, 1) := by decide +kernel
theorem dX4_aim_52 : decode cX4_aim 52 = .ok (.iastore, 1) := by decide +kernel
theorem dX4_aim_53 : decode cX4_aim 53 = .ok (.iinc 2 1, 3) := by decide +kernel
theorem dX4_aim_56 : decode cX4_aim 56 = .ok (.goto (-52), 3) := by decide +kernel
theorem dX4_aim_59 : decode cX4_aim 59 = .ok (.iload_n 1, 1) := by decide +kernel
theorem dX4_aim_60 : decode cX4_aim 60 = .ok (.ireturn, 1) := by decide +kernel
theorem dX4_isValue_0 : decode cX4_isValue 0 = .ok (.iload_n 1, 1) := by decide +kernel
theorem dX4_isValue_1 : decode cX4_isValue 1 = .ok (.iconst 0, 1) := by decide +kernel
theorem dX4_isValue_2 : decode cX4_isValue 2 = .ok (.aload_n 0, 1) := by decide +kernel
theorem dX4_isValue_3 : decode cX4_isValue 3 = .ok (.invokevirtual 116, 3) := by decide +kernel
theorem dX4_isValue_6 : decode cX4_isValue 6 = .ok (.iconst 1, 1) := by decide +kernel
theorem dX4_isValue_7 : decode cX4_isValue 7 = .ok (.isub, 1) := by decide +kernel
theorem dX4_isValue_8 : decode cX4_isValue 8 = .ok (.invokestatic 101, 3) := by decide +kernel
theorem dX4_isValue_11 : decode cX4_isValue 11 = .ok (.ireturn, 1) := by decide +kernel
theorem dX4_add_0 : decode cX4_add 0 = .ok (.iload_n 1, 1) := by decide +kernel
theorem dX4_add_1 : decode cX4_add 1 = .ok (.iconst 0, 1) := by decide +kernel
theorem dX4_add_2 : decode cX4_add 2 = .ok (.bipush 12, 2) := by decide +kernel
theorem dX4_add_4 : decode cX4_add 4 = .ok (.invokestatic 101, 3) := by decide +kernel
theorem dX4_add_7 : decode cX4_add 7 = .ok (.ifCond .eq 19, 3) := by decide +kernel
theorem dX4_add_10 : decode cX4_add 10 = .ok (.aload_n 0, 1) := by decide +kernel
theorem dX4_add_11 : decode cX4_add 11 = .ok (.iload_n 2, 1) := by decide +kernel
theorem dX4_add_12 : decode cX4_add 12 = .ok (.invokevirtual 119, 3) := by decide +kernel
theorem dX4_add_15 : decode cX4_add 15 = .ok (.ifCond .eq 11, 3) := by decide +kernel
theorem dX4_add_18 : decode cX4_add 18 = .ok (.aload_n 0, 1) := by decide +kernel
theorem dX4_add_19 : decode cX4_add 19 = .ok (.iload_n 3, 1) := by decide +kernel
theorem dX4_add_20 : decode cX4_add 20 = .ok (.invokevirtual 119, 3) := by decide +kernel
theorem dX4_add_23 : decode cX4_add 23 = .ok (.ifCond .ne 5, 3) := by decide +kernel
theorem dX4_add_26 : decode cX4_add 26 = .ok (.iconst (-1), 1) := by decide +kernel
theorem dX4_add_27 : decode cX4_add 27 = .ok (.ireturn, 1) := by decide +kernel
theorem dX4_add_28 : decode cX4_add 28 = .ok (.aload_n 0, 1) := by decide +kernel
theorem dX4_add_29 : decode cX4_add 29 = .ok (.getfield 90, 3) := by decide +kernel
theorem dX4_add_32 : decode cX4_add 32 = .ok (.bipush 12, 2) := by decide +kernel
theorem dX4_add_34 : decode cX4_add 34 = .ok (.if_icmp .ne 6, 3) := by decide +kernel
theorem dX4_add_37 : decode cX4_add 37 = .ok (.bipush (-4), 2) := by decide +kernel
theorem dX4_add_39 : decode cX4_add 39 = .ok (.ireturn, 1) := by decide +kernel
theorem dX4_add_40 : decode cX4_add 40 = .ok (.aload_n 0, 1) := by decide +kernel
theorem dX4_add_41 : decode cX4_add 41 = .ok (.getfield 32, 3) := by decide +kernel
theorem dX4_add_44 : decode cX4_add 44 = .ok (.aload_n 0, 1) := by decide +kernel
theorem dX4_add_45 : decode cX4_add 45 = .ok (.getfield 90, 3) := by decide +kernel
theorem dX4_add_48 : decode cX4_add 48 = .ok (.iload_n 1, 1) := by decide +kernel
theorem dX4_add_49 : decode cX4_add 49 = .ok (.iastore, 1) := by decide +kernel
theorem dX4_add_50 : decode cX4_add 50 = .ok (.aload_n 0, 1) := by decide +kernel
theorem dX4_add_51 : decode cX4_add 51 = .ok (.getfield 35, 3) := by decide +kernel
theorem dX4_add_54 : decode cX4_add 54 = .ok (.aload_n 0, 1) := by decide +kernel
theorem dX4_add_55 : decode cX4_add 55 = .ok (.getfield 90, 3) := by decide +kernel
theorem dX4_add_58 : decode cX4_add 58 = .ok (.iload_n 2, 1) := by decide +kernel
theorem dX4_add_59 : decode cX4_add 59 = .ok (.iastore, 1) := by decide +kernel
theorem dX4_add_60 : decode cX4_add 60 = .ok (.aload_n 0, 1) := by decide +kernel
theorem dX4_add_61 : decode cX4_add 61 = .ok (.getfield 38, 3) := by decide +kernel
theorem dX4_add_64 : decode cX4_add 64 = .ok (.aload_n 0, 1) := by decide +kernel
theorem dX4_add_65 : decode cX4_add 65 = .ok (.getfield 90, 3) := by decide +kernel
theorem dX4_add_68 : decode cX4_add 68 = .ok (.iload_n 1, 1) := by decide +kernel
theorem dX4_add_69 : decode cX4_add 69 = .ok (.ifCond .eq 8, 3) := by decide +kernel
theorem dX4_add_72 : decode cX4_add 72 = .ok (.iload_n 1, 1) := by decide +kernel
theorem dX4_add_73 : decode cX4_add 73 = .ok (.iconst 1, 1) := by decide +kernel
theorem dX4_add_74 : decode cX4_add 74 = .ok (.if_icmp .ne 7, 3) := by decide +kernel
theorem dX4_add_77 : decode cX4_add 77 = .ok (.iconst 0, 1) := by decide +kernel
theorem dX4_add_78 : decode cX4_add 78 = .ok (.goto 4, 3) := by decide +kernel
theorem dX4_add_81 : decode cX4_add 81 = .ok (.iload_n 3, 1) := by decide +kernel
theorem dX4_add_82 : decode cX4_add 82 = .ok (.iastore, 1) := by decide +kernel
theorem dX4_add_83 : decode cX4_add 83 = .ok (.aload_n 0, 1) := by decide +kernel
theorem dX4_add_84 : decode cX4_add 84 = .ok (.dup, 1) := by decide +kernel
theorem dX4_add_85 : decode cX4_add 85 = .ok (.getfield 90, 3) := by decide +kernel
theorem dX4_add_88 : decode cX4_add 88 = .ok (.iconst 1, 1) := by decide +kernel
theorem dX4_add_89 : decode cX4_add 89 = .ok (.iadd, 1) := by decide +kernel
theorem dX4_add_90 : decode cX4_add 90 = .ok (.putfield 90, 3) := by decide +kernel
theorem dX4_add_93 : decode cX4_add 93 = .ok (.aload_n 0, 1) := by decide +kernel
theorem dX4_add_94 : decode cX4_add 94 = .ok (.aload_n 0, 1) := by decide +kernel
theorem dX4_add_95 : decode cX4_add 95 = .ok (.invokevirtual 116, 3) := by decide +kernel
theorem dX4_add_98 : decode cX4_add 98 = .ok (.iconst 1, 1) := by decide +kernel
theorem dX4_add_99 : decode cX4_add 99 = .ok (.isub, 1) := by decide +kernel
theorem dX4_add_100 : decode cX4_add 100 = .ok (.putfield 105, 3) := by decide +kernel
theorem dX4_add_103 : decode cX4_add 103 = .ok (.aload_n 0, 1) := by decide +kernel
theorem dX4_add_104 : decode cX4_add 104 = .ok (.invokevirtual 80, 3) := by decide +kernel
theorem dX4_add_107 : decode cX4_add 107 = .ok (.aload_n 0, 1) := by decide +kernel
theorem dX4_add_108 : decode cX4_add 108 = .ok (.getfield 105, 3) := by decide +kernel
theorem dX4_add_111 : decode cX4_add 111 = .ok (.ireturn, 1) := by decide +kernel
theorem dX4_drop_0 : decode cX4_drop 0 = .ok (.aload_n 0, 1) := by decide +kernel
theorem dX4_drop_1 : decode cX4_drop 1 = .ok (.getfield 90, 3) := by decide +kernel
theorem dX4_drop_4 : decode cX4_drop 4 = .ok (.ifCond .ne 6, 3) := by decide +kernel
theorem dX4_drop_7 : decode cX4_drop 7 = .ok (.bipush (-3), 2) := by decide +kernel
theorem dX4_drop_9 : decode cX4_drop 9 = .ok (.ireturn, 1) := by decide +kernel
theorem dX4_drop_10 : decode cX4_drop 10 = .ok (.aload_n 0, 1) := by decide +kernel
theorem dX4_drop_11 : decode cX4_drop 11 = .ok (.getfield 105, 3) := by decide +kernel
theorem dX4_drop_14 : decode cX4_drop 14 = .ok (.aload_n 0, 1) := by decide +kernel
theorem dX4_drop_15 : decode cX4_drop 15 = .ok (.invokevirtual 116, 3) := by decide +kernel
theorem dX4_drop_18 : decode cX4_drop 18 = .ok (.iconst 1, 1) := by decide +kernel
theorem dX4_drop_19 : decode cX4_drop 19 = .ok (.isub, 1) := by decide +kernel
theorem dX4_drop_20 : decode cX4_drop 20 = .ok (.if_icmp .ne 8, 3) := by decide +kernel
theorem dX4_drop_23 : decode cX4_drop 23 = .ok (.aload_n 0, 1) := by decide +kernel
theorem dX4_drop_24 : decode cX4_drop 24 = .ok (.iconst 0, 1) := by decide +kernel
theorem dX4_drop_25 : decode cX4_drop 25 = .ok (.putfield 105, 3) := by decide +kernel
theorem dX4_drop_28 : decode cX4_drop 28 = .ok (.aload_n 0, 1) := by decide +kernel
theorem dX4_drop_29 : decode cX4_drop 29 = .ok (.dup, 1) := by decide +kernel
theorem dX4_drop_30 : decode cX4_drop 30 = .ok (.getfield 90, 3) := by decide +kernel
theorem dX4_drop_33 : decode cX4_drop 33 = .ok (.iconst 1, 1) := by decide +kernel
theorem dX4_drop_34 : decode cX4_drop 34 = .ok (.isub, 1) := by decide +kernel
theorem dX4_drop_35 : decode cX4_drop 35 = .ok (.putfield 90, 3) := by decide +kernel
theorem dX4_drop_38 : decode cX4_drop 38 = .ok (.aload_n 0, 1) := by decide +kernel
theorem dX4_drop_39 : decode cX4_drop 39 = .ok (.getfield 90, 3) := by decide +kernel
theorem dX4_drop_42 : decode cX4_drop 42 = .ok (.ireturn, 1) := by decide +kernel
theorem dX4_result_0 : decode cX4_result 0 = .ok (.aload_n 0, 1) := by decide +kernel
theorem dX4_result_1 : decode cX4_result 1 = .ok (.iload_n 1, 1) := by decide +kernel
theorem dX4_result_2 : decode cX4_result 2 = .ok (.invokevirtual 119, 3) := by decide +kernel
theorem dX4_result_5 : decode cX4_result 5 = .ok (.ifCond .ne 5, 3) := by decide +kernel
theorem dX4_result_8 : decode cX4_result 8 = .ok (.iconst (-1), 1) := by decide +kernel
theorem dX4_result_9 : decode cX4_result 9 = .ok (.ireturn, 1) := by decide +kernel
theorem dX4_result_10 : decode cX4_result 10 = .ok (.aload_n 0, 1) := by decide +kernel
theorem dX4_result_11 : decode cX4_result 11 = .ok (.getfield 105, 3) := by decide +kernel
theorem dX4_result_14 : decode cX4_result 14 = .ok (.istore_n 2, 1) := by decide +kernel
theorem dX4_result_15 : decode cX4_result 15 = .ok (.aload_n 0, 1) := by decide +kernel
theorem dX4_result_16 : decode cX4_result 16 = .ok (.iload_n 1, 1) := by decide +kernel
theorem dX4_result_17 : decode cX4_result 17 = .ok (.putfield 105, 3) := by decide +kernel
theorem dX4_result_20 : decode cX4_result 20 = .ok (.iload_n 2, 1) := by decide +kernel
theorem dX4_result_21 : decode cX4_result 21 = .ok (.ireturn, 1) := by decide +kernel
theorem dX4_instruction_0 : decode cX4_instruction 0 = .ok (.iload_n 1, 1) := by decide +kernel
theorem dX4_instruction_1 : decode cX4_instruction 1 = .ok (.iconst 0, 1) := by decide +kernel
theorem dX4_instruction_2 : decode cX4_instruction 2 = .ok (.aload_n 0, 1) := by decide +kernel
theorem dX4_instruction_3 : decode cX4_instruction 3 = .ok (.getfield 90, 3) := by decide +kernel
theorem dX4_instruction_6 : decode cX4_instruction 6 = .ok (.iconst 1, 1) := by decide +kernel
theorem dX4_instruction_7 : decode cX4_instruction 7 = .ok (.isub, 1) := by decide +kernel
theorem dX4_instruction_8 : decode cX4_instruction 8 = .ok (.invokestatic 101, 3) := by decide +kernel
theorem dX4_instruction_11 : decode cX4_instruction 11 = .ok (.ifCond .ne 5, 3) := by decide +kernel
theorem dX4_instruction_14 : decode cX4_instruction 14 = .ok (.iconst (-1), 1) := by decide +kernel
theorem dX4_instruction_15 : decode cX4_instruction 15 = .ok (.ireturn, 1) := by decide +kernel
theorem dX4_instruction_16 : decode cX4_instruction 16 = .ok (.iload_n 2, 1) := by decide +kernel
theorem dX4_instruction_17 : decode cX4_instruction 17 = .ok (.ifCond .ne 12, 3) := by decide +kernel
theorem dX4_instruction_20 : decode cX4_instruction 20 = .ok (.aload_n 0, 1) := by decide +kernel
theorem dX4_instruction_21 : decode cX4_instruction 21 = .ok (.getfield 32, 3) := by decide +kernel
theorem dX4_instruction_24 : decode cX4_instruction 24 = .ok (.iload_n 1, 1) := by decide +kernel
theorem dX4_instruction_25 : decode cX4_instruction 25 = .ok (.iaload, 1) := by decide +kernel
theorem dX4_instruction_26 : decode cX4_instruction 26 = .ok (.goto 33, 3) := by decide +kernel
theorem dX4_instruction_29 : decode cX4_instruction 29 = .ok (.iload_n 2, 1) := by decide +kernel
theorem dX4_instruction_30 : decode cX4_instruction 30 = .ok (.iconst 1, 1) := by decide +kernel
theorem dX4_instruction_31 : decode cX4_instruction 31 = .ok (.if_icmp .ne 12, 3) := by decide +kernel
theorem dX4_instruction_34 : decode cX4_instruction 34 = .ok (.aload_n 0, 1) := by decide +kernel
theorem dX4_instruction_35 : decode cX4_instruction 35 = .ok (.getfield 35, 3) := by decide +kernel
theorem dX4_instruction_38 : decode cX4_instruction 38 = .ok (.iload_n 1, 1) := by decide +kernel
theorem dX4_instruction_39 : decode cX4_instruction 39 = .ok (.iaload, 1) := by decide +kernel
theorem dX4_instruction_40 : decode cX4_instruction 40 = .ok (.goto 19, 3) := by decide +kernel
theorem dX4_instruction_43 : decode cX4_instruction 43 = .ok (.iload_n 2, 1) := by decide +kernel
theorem dX4_instruction_44 : decode cX4_instruction 44 = .ok (.iconst 2, 1) := by decide +kernel
theorem dX4_instruction_45 : decode cX4_instruction 45 = .ok (.if_icmp .ne 12, 3) := by decide +kernel
theorem dX4_instruction_48 : decode cX4_instruction 48 = .ok (.aload_n 0, 1) := by decide +kernel
theorem dX4_instruction_49 : decode cX4_instruction 49 = .ok (.getfield 38, 3) := by decide +kernel
theorem dX4_instruction_52 : decode cX4_instruction 52 = .ok (.iload_n 1, 1) := by decide +kernel
theorem dX4_instruction_53 : decode cX4_instruction 53 = .ok (.iaload, 1) := by decide +kernel
theorem dX4_instruction_54 : decode cX4_instruction 54 = .ok (.goto 5, 3) := by decide +kernel
theorem dX4_instruction_57 : decode cX4_instruction 57 = .ok (.bipush (-2), 2) := by decide +kernel
theorem dX4_instruction_59 : decode cX4_instruction 59 = .ok (.ireturn, 1) := by decide +kernel
theorem dX4_count_0 : decode cX4_count 0 = .ok (.iconst 0, 1) := by decide +kernel
theorem dX4_count_1 : decode cX4_count 1 = .ok (.istore_n 2, 1) := by decide +kernel
theorem dX4_count_2 : decode cX4_count 2 = .ok (.iconst 0, 1) := by decide +kernel
theorem dX4_count_3 : decode cX4_count 3 = .ok (.istore_n 3, 1) := by decide +kernel
theorem dX4_count_4 : decode cX4_count 4 = .ok (.iload_n 3, 1) := by decide +kernel
theorem dX4_count_5 : decode cX4_count 5 = .ok (.aload_n 0, 1) := by decide +kernel
theorem dX4_count_6 : decode cX4_count 6 = .ok (.getfield 90, 3) := by decide +kernel
theorem dX4_count_9 : decode cX4_count 9 = .ok (.if_icmp .ge 23, 3) := by decide +kernel
theorem dX4_count_12 : decode cX4_count 12 = .ok (.iload_n 2, 1) := by decide +kernel
theorem dX4_count_13 : decode cX4_count 13 = .ok (.aload_n 0, 1) := by decide +kernel
theorem dX4_count_14 : decode cX4_count 14 = .ok (.getfield 26, 3) := by decide +kernel
theorem dX4_count_17 : decode cX4_count 17 = .ok (.aload_n 0, 1) := by decide +kernel
theorem dX4_count_18 : decode cX4_count 18 = .ok (.getfield 32, 3) := by decide +kernel
theorem dX4_count_21 : decode cX4_count 21 = .ok (.iload_n 3, 1) := by decide +kernel
theorem dX4_count_22 : decode cX4_count 22 = .ok (.iaload, 1) := by decide +kernel
theorem dX4_count_23 : decode cX4_count 23 = .ok (.iaload, 1) := by decide +kernel
theorem dX4_count_24 : decode cX4_count 24 = .ok (.iadd, 1) := by decide +kernel
theorem dX4_count_25 : decode cX4_count 25 = .ok (.istore_n 2, 1) := by decide +kernel
theorem dX4_count_26 : decode cX4_count 26 = .ok (.iinc 3 1, 3) := by decide +kernel
theorem dX4_count_29 : decode cX4_count 29 = .ok (.goto (-25), 3) := by decide +kernel
theorem dX4_count_32 : decode cX4_count 32 = .ok (.iload_n 1, 1) := by decide +kernel
theorem dX4_count_33 : decode cX4_count 33 = .ok (.ifCond .ne 10, 3) := by decide +kernel
theorem dX4_count_36 : decode cX4_count 36 = .ok (.aload_n 0, 1) := by decide +kernel
theorem dX4_count_37 : decode cX4_count 37 = .ok (.getfield 7, 3) := by decide +kernel
theorem dX4_count_40 : decode cX4_count 40 = .ok (.goto 62, 3) := by decide +kernel
theorem dX4_count_43 : decode cX4_count 43 = .ok (.iload_n 1, 1) := by decide +kernel
theorem dX4_count_44 : decode cX4_count 44 = .ok (.iconst 1, 1) := by decide +kernel
theorem dX4_count_45 : decode cX4_count 45 = .ok (.if_icmp .ne 10, 3) := by decide +kernel
theorem dX4_count_48 : decode cX4_count 48 = .ok (.aload_n 0, 1) := by decide +kernel
theorem dX4_count_49 : decode cX4_count 49 = .ok (.getfield 13, 3) := by decide +kernel
theorem dX4_count_52 : decode cX4_count 52 = .ok (.goto 50, 3) := by decide +kernel
theorem dX4_count_55 : decode cX4_count 55 = .ok (.iload_n 1, 1) := by decide +kernel
theorem dX4_count_56 : decode cX4_count 56 = .ok (.iconst 2, 1) := by decide +kernel
theorem dX4_count_57 : decode cX4_count 57 = .ok (.if_icmp .ne 10, 3) := by decide +kernel
theorem dX4_count_60 : decode cX4_count 60 = .ok (.aload_n 0, 1) := by decide +kernel
theorem dX4_count_61 : decode cX4_count 61 = .ok (.getfield 83, 3) := by decide +kernel
theorem dX4_count_64 : decode cX4_count 64 = .ok (.goto 38, 3) := by decide +kernel
theorem dX4_count_67 : decode cX4_count 67 = .ok (.iload_n 1, 1) := by decide +kernel
theorem dX4_count_68 : decode cX4_count 68 = .ok (.iconst 3, 1) := by decide +kernel
theorem dX4_count_69 : decode cX4_count 69 = .ok (.if_icmp .ne 10, 3) := by decide +kernel
theorem dX4_count_72 : decode cX4_count 72 = .ok (.aload_n 0, 1) := by decide +kernel
theorem dX4_count_73 : decode cX4_count 73 = .ok (.getfield 90, 3) := by decide +kernel
theorem dX4_count_76 : decode cX4_count 76 = .ok (.goto 26, 3) := by decide +kernel
theorem dX4_count_79 : decode cX4_count 79 = .ok (.iload_n 1, 1) := by decide +kernel
theorem dX4_count_80 : decode cX4_count 80 = .ok (.iconst 4, 1) := by decide +kernel
theorem dX4_count_81 : decode cX4_count 81 = .ok (.if_icmp .ne 10, 3) := by decide +kernel
theorem dX4_count_84 : decode cX4_count 84 = .ok (.aload_n 0, 1) := by decide +kernel
theorem dX4_count_85 : decode cX4_count 85 = .ok (.getfield 105, 3) := by decide +kernel
theorem dX4_count_88 : decode cX4_count 88 = .ok (.goto 14, 3) := by decide +kernel
theorem dX4_count_91 : decode cX4_count 91 = .ok (.iload_n 1, 1) := by decide +kernel
theorem dX4_count_92 : decode cX4_count 92 = .ok (.iconst 5, 1) := by decide +kernel
theorem dX4_count_93 : decode cX4_count 93 = .ok (.if_icmp .ne 7, 3) := by decide +kernel
theorem dX4_count_96 : decode cX4_count 96 = .ok (.iload_n 2, 1) := by decide +kernel
theorem dX4_count_97 : decode cX4_count 97 = .ok (.goto 5, 3) := by decide +kernel
theorem dX4_count_100 : decode cX4_count 100 = .ok (.bipush (-2), 2) := by decide +kernel
theorem dX4_count_102 : decode cX4_count 102 = .ok (.ireturn, 1) := by decide +kernel
theorem dX4_value_0 : decode cX4_value 0 = .ok (.aload_n 0, 1) := by decide +kernel
theorem dX4_value_1 : decode cX4_value 1 = .ok (.iload_n 1, 1) := by decide +kernel
theorem dX4_value_2 : decode cX4_value 2 = .ok (.invokevirtual 119, 3) := by decide +kernel
theorem dX4_value_5 : decode cX4_value 5 = .ok (.ifCond .eq 26, 3) := by decide +kernel
theorem dX4_value_8 : decode cX4_value 8 = .ok (.aload_n 0, 1) := by decide +kernel
theorem dX4_value_9 : decode cX4_value 9 = .ok (.iload_n 2, 1) := by decide +kernel
theorem dX4_value_10 : decode cX4_value 10 = .ok (.invokevirtual 112, 3) := by decide +kernel
theorem dX4_value_13 : decode cX4_value 13 = .ok (.ifCond .eq 18, 3) := by decide +kernel
theorem dX4_value_16 : decode cX4_value 16 = .ok (.aload_n 0, 1) := by decide +kernel
theorem dX4_value_17 : decode cX4_value 17 = .ok (.getfield 41, 3) := by decide +kernel
theorem dX4_value_20 : decode cX4_value 20 = .ok (.sipush 256, 3) := by decide +kernel
theorem dX4_value_23 : decode cX4_value 23 = .ok (.iload_n 1, 1) := by decide +kernel
theorem dX4_value_24 : decode cX4_value 24 = .ok (.imul, 1) := by decide +kernel
theorem dX4_value_25 : decode cX4_value 25 = .ok (.iload_n 2, 1) := by decide +kernel
theorem dX4_value_26 : decode cX4_value 26 = .ok (.iadd, 1) := by decide +kernel
theorem dX4_value_27 : decode cX4_value 27 = .ok (.iaload, 1) := by decide +kernel
theorem dX4_value_28 : decode cX4_value 28 = .ok (.goto 4, 3) := by decide +kernel
theorem dX4_value_31 : decode cX4_value 31 = .ok (.iconst (-1), 1) := by decide +kernel
theorem dX4_value_32 : decode cX4_value 32 = .ok (.ireturn, 1) := by decide +kernel
theorem dX4_differ_0 : decode cX4_differ 0 = .ok (.aload_n 0, 1) := by decide +kernel
theorem dX4_differ_1 : decode cX4_differ 1 = .ok (.iload_n 1, 1) := by decide +kernel
theorem dX4_differ_2 : decode cX4_differ 2 = .ok (.invokevirtual 119, 3) := by decide +kernel
theorem dX4_differ_5 : decode cX4_differ 5 = .ok (.ifCond .eq 17, 3) := by decide +kernel
theorem dX4_differ_8 : decode cX4_differ 8 = .ok (.iload_n 2, 1) := by decide +kernel
theorem dX4_differ_9 : decode cX4_differ 9 = .ok (.bipush (-2), 2) := by decide +kernel
theorem dX4_differ_11 : decode cX4_differ 11 = .ok (.if_icmp .eq 13, 3) := by decide +kernel
theorem dX4_differ_14 : decode cX4_differ 14 = .ok (.aload_n 0, 1) := by decide +kernel
theorem dX4_differ_15 : decode cX4_differ 15 = .ok (.iload_n 2, 1) := by decide +kernel
theorem dX4_differ_16 : decode cX4_differ 16 = .ok (.invokevirtual 119, 3) := by decide +kernel
theorem dX4_differ_19 : decode cX4_differ 19 = .ok (.ifCond .ne 5, 3) := by decide +kernel
theorem dX4_differ_22 : decode cX4_differ 22 = .ok (.iconst (-1), 1) := by decide +kernel
theorem dX4_differ_23 : decode cX4_differ 23 = .ok (.ireturn, 1) := by decide +kernel
theorem dX4_differ_24 : decode cX4_differ 24 = .ok (.iconst 0, 1) := by decide +kernel
theorem dX4_differ_25 : decode cX4_differ 25 = .ok (.istore_n 3, 1) := by decide +kernel
theorem dX4_differ_26 : decode cX4_differ 26 = .ok (.iload_n 3, 1) := by decide +kernel
theorem dX4_differ_27 : decode cX4_differ 27 = .ok (.aload_n 0, 1) := by decide +kernel
theorem dX4_differ_28 : decode cX4_differ 28 = .ok (.getfield 19, 3) := by decide +kernel
theorem dX4_differ_31 : decode cX4_differ 31 = .ok (.if_icmp .ge 57, 3) := by decide +kernel
theorem dX4_differ_34 : decode cX4_differ 34 = .ok (.iload_n 2, 1) := by decide +kernel
theorem dX4_differ_35 : decode cX4_differ 35 = .ok (.bipush (-2), 2) := by decide +kernel
theorem dX4_differ_37 : decode cX4_differ 37 = .ok (.if_icmp .ne 12, 3) := by decide +kernel
theorem dX4_differ_40 : decode cX4_differ 40 = .ok (.aload_n 0, 1) := by decide +kernel
theorem dX4_differ_41 : decode cX4_differ 41 = .ok (.getfield 29, 3) := by decide +kernel
theorem dX4_differ_44 : decode cX4_differ 44 = .ok (.iload_n 3, 1) := by decide +kernel
theorem dX4_differ_45 : decode cX4_differ 45 = .ok (.iaload, 1) := by decide +kernel
theorem dX4_differ_46 : decode cX4_differ 46 = .ok (.goto 15, 3) := by decide +kernel
theorem dX4_differ_49 : decode cX4_differ 49 = .ok (.aload_n 0, 1) := by decide +kernel
theorem dX4_differ_50 : decode cX4_differ 50 = .ok (.getfield 41, 3) := by decide +kernel
theorem dX4_differ_53 : decode cX4_differ 53 = .ok (.sipush 256, 3) := by decide +kernel
theorem dX4_differ_56 : decode cX4_differ 56 = .ok (.iload_n 2, 1) := by decide +kernel
theorem dX4_differ_57 : decode cX4_differ 57 = .ok (.imul, 1) := by decide +kernel
theorem dX4_differ_58 : decode cX4_differ 58 = .ok (.iload_n 3, 1) := by decide +kernel
theorem dX4_differ_59 : decode cX4_differ 59 = .ok (.iadd, 1) := by decide +kernel
theorem dX4_differ_60 : decode cX4_differ 60 = .ok (.iaload, 1) := by decide +kernel
theorem dX4_differ_61 : decode cX4_differ 61 = .ok (.istore 4, 2) := by decide +kernel
theorem dX4_differ_63 : decode cX4_differ 63 = .ok (.aload_n 0, 1) := by decide +kernel
theorem dX4_differ_64 : decode cX4_differ 64 = .ok (.getfield 41, 3) := by decide +kernel
theorem dX4_differ_67 : decode cX4_differ 67 = .ok (.sipush 256, 3) := by decide +kernel
theorem dX4_differ_70 : decode cX4_differ 70 = .ok (.iload_n 1, 1) := by decide +kernel
theorem dX4_differ_71 : decode cX4_differ 71 = .ok (.imul, 1) := by decide +kernel
theorem dX4_differ_72 : decode cX4_differ 72 = .ok (.iload_n 3, 1) := by decide +kernel
theorem dX4_differ_73 : decode cX4_differ 73 = .ok (.iadd, 1) := by decide +kernel
theorem dX4_differ_74 : decode cX4_differ 74 = .ok (.iaload, 1) := by decide +kernel
theorem dX4_differ_75 : decode cX4_differ 75 = .ok (.iload 4, 2) := by decide +kernel
theorem dX4_differ_77 : decode cX4_differ 77 = .ok (.if_icmp .eq 5, 3) := by decide +kernel
theorem dX4_differ_80 : decode cX4_differ 80 = .ok (.iload_n 3, 1) := by decide +kernel
theorem dX4_differ_81 : decode cX4_differ 81 = .ok (.ireturn, 1) := by decide +kernel
theorem dX4_differ_82 : decode cX4_differ 82 = .ok (.iinc 3 1, 3) := by decide +kernel
theorem dX4_differ_85 : decode cX4_differ 85 = .ok (.goto (-59), 3) := by decide +kernel
theorem dX4_differ_88 : decode cX4_differ 88 = .ok (.bipush (-5), 2) := by decide +kernel
theorem dX4_differ_90 : decode cX4_differ 90 = .ok (.ireturn, 1) := by decide +kernel
theorem dX4_isSame_0 : decode cX4_isSame 0 = .ok (.iconst 0, 1) := by decide +kernel
theorem dX4_isSame_1 : decode cX4_isSame 1 = .ok (.istore 4, 2) := by decide +kernel
theorem dX4_isSame_3 : decode cX4_isSame 3 = .ok (.iload 4, 2) := by decide +kernel
theorem dX4_isSame_5 : decode cX4_isSame 5 = .ok (.iload_n 3, 1) := by decide +kernel
theorem dX4_isSame_6 : decode cX4_isSame 6 = .ok (.if_icmp .ge 34, 3) := by decide +kernel
theorem dX4_isSame_9 : decode cX4_isSame 9 = .ok (.aload_n 0, 1) := by decide +kernel
theorem dX4_isSame_10 : decode cX4_isSame 10 = .ok (.sipush 256, 3) := by decide +kernel
theorem dX4_isSame_13 : decode cX4_isSame 13 = .ok (.iload_n 1, 1) := by decide +kernel
theorem dX4_isSame_14 : decode cX4_isSame 14 = .ok (.imul, 1) := by decide +kernel
theorem dX4_isSame_15 : decode cX4_isSame 15 = .ok (.iload 4, 2) := by decide +kernel
theorem dX4_isSame_17 : decode cX4_isSame 17 = .ok (.iadd, 1) := by decide +kernel
theorem dX4_isSame_18 : decode cX4_isSame 18 = .ok (.iaload, 1) := by decide +kernel
theorem dX4_isSame_19 : decode cX4_isSame 19 = .ok (.aload_n 0, 1) := by decide +kernel
theorem dX4_isSame_20 : decode cX4_isSame 20 = .ok (.sipush 256, 3) := by decide +kernel
theorem dX4_isSame_23 : decode cX4_isSame 23 = .ok (.iload_n 2, 1) := by decide +kernel
theorem dX4_isSame_24 : decode cX4_isSame 24 = .ok (.imul, 1) := by decide +kernel
theorem dX4_isSame_25 : decode cX4_isSame 25 = .ok (.iload 4, 2) := by decide +kernel
theorem dX4_isSame_27 : decode cX4_isSame 27 = .ok (.iadd, 1) := by decide +kernel
theorem dX4_isSame_28 : decode cX4_isSame 28 = .ok (.iaload, 1) := by decide +kernel
theorem dX4_isSame_29 : decode cX4_isSame 29 = .ok (.if_icmp .eq 5, 3) := by decide +kernel
theorem dX4_isSame_32 : decode cX4_isSame 32 = .ok (.iconst 0, 1) := by decide +kernel
theorem dX4_isSame_33 : decode cX4_isSame 33 = .ok (.ireturn, 1) := by decide +kernel
theorem dX4_isSame_34 : decode cX4_isSame 34 = .ok (.iinc 4 1, 3) := by decide +kernel
theorem dX4_isSame_37 : decode cX4_isSame 37 = .ok (.goto (-34), 3) := by decide +kernel
theorem dX4_isSame_40 : decode cX4_isSame 40 = .ok (.iconst 1, 1) := by decide +kernel
theorem dX4_isSame_41 : decode cX4_isSame 41 = .ok (.ireturn, 1) := by decide +kernel
theorem dX4_lose_0 : decode cX4_lose 0 = .ok (.aload_n 0, 1) := by decide +kernel
theorem dX4_lose_1 : decode cX4_lose 1 = .ok (.invokevirtual 86, 3) := by decide +kernel
theorem dX4_lose_4 : decode cX4_lose 4 = .ok (.iload_n 1, 1) := by decide +kernel
theorem dX4_lose_5 : decode cX4_lose 5 = .ok (.iadd, 1) := by decide +kernel
theorem dX4_lose_6 : decode cX4_lose 6 = .ok (.istore_n 3, 1) := by decide +kernel
theorem dX4_lose_7 : decode cX4_lose 7 = .ok (.iconst 0, 1) := by decide +kernel
theorem dX4_lose_8 : decode cX4_lose 8 = .ok (.istore 4, 2) := by decide +kernel
theorem dX4_lose_10 : decode cX4_lose 10 = .ok (.iload 4, 2) := by decide +kernel
theorem dX4_lose_12 : decode cX4_lose 12 = .ok (.aload_n 0, 1) := by decide +kernel
theorem dX4_lose_13 : decode cX4_lose 13 = .ok (.getfield 90, 3) := by decide +kernel
theorem dX4_lose_16 : decode cX4_lose 16 = .ok (.if_icmp .ge 67, 3) := by decide +kernel
theorem dX4_lose_19 : decode cX4_lose 19 = .ok (.aload_n 0, 1) := by decide +kernel
theorem dX4_lose_20 : decode cX4_lose 20 = .ok (.getfield 35, 3) := by decide +kernel
theorem dX4_lose_23 : decode cX4_lose 23 = .ok (.iload 4, 2) := by decide +kernel
theorem dX4_lose_25 : decode cX4_lose 25 = .ok (.aload_n 0, 1) := by decide +kernel
theorem dX4_lose_26 : decode cX4_lose 26 = .ok (.getfield 35, 3) := by decide +kernel
theorem dX4_lose_29 : decode cX4_lose 29 = .ok (.iload 4, 2) := by decide +kernel
theorem dX4_lose_31 : decode cX4_lose 31 = .ok (.iaload, 1) := by decide +kernel
theorem dX4_lose_32 : decode cX4_lose 32 = .ok (.iload_n 3, 1) := by decide +kernel
theorem dX4_lose_33 : decode cX4_lose 33 = .ok (.if_icmp .ne 7, 3) := by decide +kernel
theorem dX4_lose_36 : decode cX4_lose 36 = .ok (.iload_n 2, 1) := by decide +kernel
theorem dX4_lose_37 : decode cX4_lose 37 = .ok (.goto 10, 3) := by decide +kernel
theorem dX4_lose_40 : decode cX4_lose 40 = .ok (.aload_n 0, 1) := by decide +kernel
theorem dX4_lose_41 : decode cX4_lose 41 = .ok (.getfield 35, 3) := by decide +kernel
theorem dX4_lose_44 : decode cX4_lose 44 = .ok (.iload 4, 2) := by decide +kernel
theorem dX4_lose_46 : decode cX4_lose 46 = .ok (.iaload, 1) := by decide +kernel
theorem dX4_lose_47 : decode cX4_lose 47 = .ok (.iastore, 1) := by decide +kernel
theorem dX4_lose_48 : decode cX4_lose 48 = .ok (.aload_n 0, 1) := by decide +kernel
theorem dX4_lose_49 : decode cX4_lose 49 = .ok (.getfield 38, 3) := by decide +kernel
theorem dX4_lose_52 : decode cX4_lose 52 = .ok (.iload 4, 2) := by decide +kernel
theorem dX4_lose_54 : decode cX4_lose 54 = .ok (.aload_n 0, 1) := by decide +kernel
theorem dX4_lose_55 : decode cX4_lose 55 = .ok (.getfield 38, 3) := by decide +kernel
theorem dX4_lose_58 : decode cX4_lose 58 = .ok (.iload 4, 2) := by decide +kernel
theorem dX4_lose_60 : decode cX4_lose 60 = .ok (.iaload, 1) := by decide +kernel
theorem dX4_lose_61 : decode cX4_lose 61 = .ok (.iload_n 3, 1) := by decide +kernel
theorem dX4_lose_62 : decode cX4_lose 62 = .ok (.if_icmp .ne 7, 3) := by decide +kernel
theorem dX4_lose_65 : decode cX4_lose 65 = .ok (.iload_n 2, 1) := by decide +kernel
theorem dX4_lose_66 : decode cX4_lose 66 = .ok (.goto 10, 3) := by decide +kernel
theorem dX4_lose_69 : decode cX4_lose 69 = .ok (.aload_n 0, 1) := by decide +kernel
theorem dX4_lose_70 : decode cX4_lose 70 = .ok (.getfield 38, 3) := by decide +kernel
theorem dX4_lose_73 : decode cX4_lose 73 = .ok (.iload 4, 2) := by decide +kernel
theorem dX4_lose_75 : decode cX4_lose 75 = .ok (.iaload, 1) := by decide +kernel
theorem dX4_lose_76 : decode cX4_lose 76 = .ok (.iastore, 1) := by decide +kernel
theorem dX4_lose_77 : decode cX4_lose 77 = .ok (.iinc 4 1, 3) := by decide +kernel
theorem dX4_lose_80 : decode cX4_lose 80 = .ok (.goto (-70), 3) := by decide +kernel
theorem dX4_lose_83 : decode cX4_lose 83 = .ok (.aload_n 0, 1) := by decide +kernel
theorem dX4_lose_84 : decode cX4_lose 84 = .ok (.aload_n 0, 1) := by decide +kernel
theorem dX4_lose_85 : decode cX4_lose 85 = .ok (.getfield 105, 3) := by decide +kernel
theorem dX4_lose_88 : decode cX4_lose 88 = .ok (.iload_n 3, 1) := by decide +kernel
theorem dX4_lose_89 : decode cX4_lose 89 = .ok (.if_icmp .ne 7, 3) := by decide +kernel
theorem dX4_lose_92 : decode cX4_lose 92 = .ok (.iload_n 2, 1) := by decide +kernel
theorem dX4_lose_93 : decode cX4_lose 93 = .ok (.goto 7, 3) := by decide +kernel
theorem dX4_lose_96 : decode cX4_lose 96 = .ok (.aload_n 0, 1) := by decide +kernel
theorem dX4_lose_97 : decode cX4_lose 97 = .ok (.getfield 105, 3) := by decide +kernel
theorem dX4_lose_100 : decode cX4_lose 100 = .ok (.putfield 105, 3) := by decide +kernel
theorem dX4_lose_103 : decode cX4_lose 103 = .ok (.aload_n 0, 1) := by decide +kernel
theorem dX4_lose_104 : decode cX4_lose 104 = .ok (.dup, 1) := by decide +kernel
theorem dX4_lose_105 : decode cX4_lose 105 = .ok (.getfield 90, 3) := by decide +kernel
theorem dX4_lose_108 : decode cX4_lose 108 = .ok (.iconst 1, 1) := by decide +kernel
theorem dX4_lose_109 : decode cX4_lose 109 = .ok (.isub, 1) := by decide +kernel
theorem dX4_lose_110 : decode cX4_lose 110 = .ok (.putfield 90, 3) := by decide +kernel
theorem dX4_lose_113 : decode cX4_lose 113 = .ok (.iload_n 1, 1) := by decide +kernel
theorem dX4_lose_114 : decode cX4_lose 114 = .ok (.istore 4, 2) := by decide +kernel
theorem dX4_lose_116 : decode cX4_lose 116 = .ok (.iload 4, 2) := by decide +kernel
theorem dX4_lose_118 : decode cX4_lose 118 = .ok (.aload_n 0, 1) := by decide +kernel
theorem dX4_lose_119 : decode cX4_lose 119 = .ok (.getfield 90, 3) := by decide +kernel
theorem dX4_lose_122 : decode cX4_lose 122 = .ok (.if_icmp .ge 57, 3) := by decide +kernel
theorem dX4_lose_125 : decode cX4_lose 125 = .ok (.aload_n 0, 1) := by decide +kernel
theorem dX4_lose_126 : decode cX4_lose 126 = .ok (.getfield 32, 3) := by decide +kernel
theorem dX4_lose_129 : decode cX4_lose 129 = .ok (.iload 4, 2) := by decide +kernel
theorem dX4_lose_131 : decode cX4_lose 131 = .ok (.aload_n 0, 1) := by decide +kernel
theorem dX4_lose_132 : decode cX4_lose 132 = .ok (.getfield 32, 3) := by decide +kernel
theorem dX4_lose_135 : decode cX4_lose 135 = .ok (.iload 4, 2) := by decide +kernel
theorem dX4_lose_137 : decode cX4_lose 137 = .ok (.iconst 1, 1) := by decide +kernel
theorem dX4_lose_138 : decode cX4_lose 138 = .ok (.iadd, 1) := by decide +kernel
theorem dX4_lose_139 : decode cX4_lose 139 = .ok (.iaload, 1) := by decide +kernel
theorem dX4_lose_140 : decode cX4_lose 140 = .ok (.iastore, 1) := by decide +kernel
theorem dX4_lose_141 : decode cX4_lose 141 = .ok (.aload_n 0, 1) := by decide +kernel
theorem dX4_lose_142 : decode cX4_lose 142 = .ok (.getfield 35, 3) := by decide +kernel
theorem dX4_lose_145 : decode cX4_lose 145 = .ok (.iload 4, 2) := by decide +kernel
theorem dX4_lose_147 : decode cX4_lose 147 = .ok (.aload_n 0, 1) := by decide +kernel
theorem dX4_lose_148 : decode cX4_lose 148 = .ok (.getfield 35, 3) := by decide +kernel
theorem dX4_lose_151 : decode cX4_lose 151 = .ok (.iload 4, 2) := by decide +kernel
theorem dX4_lose_153 : decode cX4_lose 153 = .ok (.iconst 1, 1) := by decide +kernel
theorem dX4_lose_154 : decode cX4_lose 154 = .ok (.iadd, 1) := by decide +kernel
theorem dX4_lose_155 : decode cX4_lose 155 = .ok (.iaload, 1) := by decide +kernel
theorem dX4_lose_156 : decode cX4_lose 156 = .ok (.iastore, 1) := by decide +kernel
theorem dX4_lose_157 : decode cX4_lose 157 = .ok (.aload_n 0, 1) := by decide +kernel
theorem dX4_lose_158 : decode cX4_lose 158 = .ok (.getfield 38, 3) := by decide +kernel
theorem dX4_lose_161 : decode cX4_lose 161 = .ok (.iload 4, 2) := by decide +kernel
theorem dX4_lose_163 : decode cX4_lose 163 = .ok (.aload_n 0, 1) := by decide +kernel
theorem dX4_lose_164 : decode cX4_lose 164 = .ok (.getfield 38, 3) := by decide +kernel
theorem dX4_lose_167 : decode cX4_lose 167 = .ok (.iload 4, 2) := by decide +kernel
theorem dX4_lose_169 : decode cX4_lose 169 = .ok (.iconst 1, 1) := by decide +kernel
theorem dX4_lose_170 : decode cX4_lose 170 = .ok (.iadd, 1) := by decide +kernel
theorem dX4_lose_171 : decode cX4_lose 171 = .ok (.iaload, 1) := by decide +kernel
theorem dX4_lose_172 : decode cX4_lose 172 = .ok (.iastore, 1) := by decide +kernel
theorem dX4_lose_173 : decode cX4_lose 173 = .ok (.iinc 4 1, 3) := by decide +kernel
theorem dX4_lose_176 : decode cX4_lose 176 = .ok (.goto (-60), 3) := by decide +kernel
theorem dX4_lose_179 : decode cX4_lose 179 = .ok (.iconst 0, 1) := by decide +kernel
theorem dX4_lose_180 : decode cX4_lose 180 = .ok (.istore 4, 2) := by decide +kernel
theorem dX4_lose_182 : decode cX4_lose 182 = .ok (.iload 4, 2) := by decide +kernel
theorem dX4_lose_184 : decode cX4_lose 184 = .ok (.aload_n 0, 1) := by decide +kernel
theorem dX4_lose_185 : decode cX4_lose 185 = .ok (.getfield 90, 3) := by decide +kernel
theorem dX4_lose_188 : decode cX4_lose 188 = .ok (.if_icmp .ge 61, 3) := by decide +kernel
theorem dX4_lose_191 : decode cX4_lose 191 = .ok (.aload_n 0, 1) := by decide +kernel
theorem dX4_lose_192 : decode cX4_lose 192 = .ok (.getfield 35, 3) := by decide +kernel
theorem dX4_lose_195 : decode cX4_lose 195 = .ok (.iload 4, 2) := by decide +kernel
theorem dX4_lose_197 : decode cX4_lose 197 = .ok (.dup2, 1) := by decide +kernel
theorem dX4_lose_198 : decode cX4_lose 198 = .ok (.iaload, 1) := by decide +kernel
theorem dX4_lose_199 : decode cX4_lose 199 = .ok (.aload_n 0, 1) := by decide +kernel
theorem dX4_lose_200 : decode cX4_lose 200 = .ok (.getfield 35, 3) := by decide +kernel
theorem dX4_lose_203 : decode cX4_lose 203 = .ok (.iload 4, 2) := by decide +kernel
theorem dX4_lose_205 : decode cX4_lose 205 = .ok (.iaload, 1) := by decide +kernel
theorem dX4_lose_206 : decode cX4_lose 206 = .ok (.iload_n 3, 1) := by decide +kernel
theorem dX4_lose_207 : decode cX4_lose 207 = .ok (.if_icmp .le 7, 3) := by decide +kernel
theorem dX4_lose_210 : decode cX4_lose 210 = .ok (.iconst 1, 1) := by decide +kernel
theorem dX4_lose_211 : decode cX4_lose 211 = .ok (.goto 4, 3) := by decide +kernel
theorem dX4_lose_214 : decode cX4_lose 214 = .ok (.iconst 0, 1) := by decide +kernel
theorem dX4_lose_215 : decode cX4_lose 215 = .ok (.isub, 1) := by decide +kernel
theorem dX4_lose_216 : decode cX4_lose 216 = .ok (.iastore, 1) := by decide +kernel
theorem dX4_lose_217 : decode cX4_lose 217 = .ok (.aload_n 0, 1) := by decide +kernel
theorem dX4_lose_218 : decode cX4_lose 218 = .ok (.getfield 38, 3) := by decide +kernel
theorem dX4_lose_221 : decode cX4_lose 221 = .ok (.iload 4, 2) := by decide +kernel
theorem dX4_lose_223 : decode cX4_lose 223 = .ok (.dup2, 1) := by decide +kernel
theorem dX4_lose_224 : decode cX4_lose 224 = .ok (.iaload, 1) := by decide +kernel
theorem dX4_lose_225 : decode cX4_lose 225 = .ok (.aload_n 0, 1) := by decide +kernel
theorem dX4_lose_226 : decode cX4_lose 226 = .ok (.getfield 38, 3) := by decide +kernel
theorem dX4_lose_229 : decode cX4_lose 229 = .ok (.iload 4, 2) := by decide +kernel
theorem dX4_lose_231 : decode cX4_lose 231 = .ok (.iaload, 1) := by decide +kernel
theorem dX4_lose_232 : decode cX4_lose 232 = .ok (.iload_n 3, 1) := by decide +kernel
theorem dX4_lose_233 : decode cX4_lose 233 = .ok (.if_icmp .le 7, 3) := by decide +kernel
theorem dX4_lose_236 : decode cX4_lose 236 = .ok (.iconst 1, 1) := by decide +kernel
theorem dX4_lose_237 : decode cX4_lose 237 = .ok (.goto 4, 3) := by decide +kernel
theorem dX4_lose_240 : decode cX4_lose 240 = .ok (.iconst 0, 1) := by decide +kernel
theorem dX4_lose_241 : decode cX4_lose 241 = .ok (.isub, 1) := by decide +kernel
theorem dX4_lose_242 : decode cX4_lose 242 = .ok (.iastore, 1) := by decide +kernel
theorem dX4_lose_243 : decode cX4_lose 243 = .ok (.iinc 4 1, 3) := by decide +kernel
theorem dX4_lose_246 : decode cX4_lose 246 = .ok (.goto (-64), 3) := by decide +kernel
theorem dX4_lose_249 : decode cX4_lose 249 = .ok (.aload_n 0, 1) := by decide +kernel
theorem dX4_lose_250 : decode cX4_lose 250 = .ok (.dup, 1) := by decide +kernel
theorem dX4_lose_251 : decode cX4_lose 251 = .ok (.getfield 105, 3) := by decide +kernel
theorem dX4_lose_254 : decode cX4_lose 254 = .ok (.aload_n 0, 1) := by decide +kernel
theorem dX4_lose_255 : decode cX4_lose 255 = .ok (.getfield 105, 3) := by decide +kernel
theorem dX4_lose_258 : decode cX4_lose 258 = .ok (.iload_n 3, 1) := by decide +kernel
theorem dX4_lose_259 : decode cX4_lose 259 = .ok (.if_icmp .le 7, 3) := by decide +kernel
theorem dX4_lose_262 : decode cX4_lose 262 = .ok (.iconst 1, 1) := by decide +kernel
theorem dX4_lose_263 : decode cX4_lose 263 = .ok (.goto 4, 3) := by decide +kernel
theorem dX4_lose_266 : decode cX4_lose 266 = .ok (.iconst 0, 1) := by decide +kernel
theorem dX4_lose_267 : decode cX4_lose 267 = .ok (.isub, 1) := by decide +kernel
theorem dX4_lose_268 : decode cX4_lose 268 = .ok (.putfield 105, 3) := by decide +kernel
theorem dX4_lose_271 : decode cX4_lose 271 = .ok (.aload_n 0, 1) := by decide +kernel
theorem dX4_lose_272 : decode cX4_lose 272 = .ok (.invokevirtual 80, 3) := by decide +kernel
theorem dX4_lose_275 : decode cX4_lose 275 = .ok (.return_, 1) := by decide +kernel
theorem dX4_loseTwin_0 : decode cX4_loseTwin 0 = .ok (.iconst 0, 1) := by decide +kernel
theorem dX4_loseTwin_1 : decode cX4_loseTwin 1 = .ok (.istore_n 1, 1) := by decide +kernel
theorem dX4_loseTwin_2 : decode cX4_loseTwin 2 = .ok (.iload_n 1, 1) := by decide +kernel
theorem dX4_loseTwin_3 : decode cX4_loseTwin 3 = .ok (.aload_n 0, 1) := by decide +kernel
theorem dX4_loseTwin_4 : decode cX4_loseTwin 4 = .ok (.getfield 90, 3) := by decide +kernel
theorem dX4_loseTwin_7 : decode cX4_loseTwin 7 = .ok (.if_icmp .ge 53, 3) := by decide +kernel
theorem dX4_loseTwin_10 : decode cX4_loseTwin 10 = .ok (.aload_n 0, 1) := by decide +kernel
theorem dX4_loseTwin_11 : decode cX4_loseTwin 11 = .ok (.invokevirtual 86, 3) := by decide +kernel
theorem dX4_loseTwin_14 : decode cX4_loseTwin 14 = .ok (.iload_n 1, 1) := by decide +kernel
theorem dX4_loseTwin_15 : decode cX4_loseTwin 15 = .ok (.iadd, 1) := by decide +kernel
theorem dX4_loseTwin_16 : decode cX4_loseTwin 16 = .ok (.istore_n 2, 1) := by decide +kernel
theorem dX4_loseTwin_17 : decode cX4_loseTwin 17 = .ok (.iconst 0, 1) := by decide +kernel
theorem dX4_loseTwin_18 : decode cX4_loseTwin 18 = .ok (.istore_n 3, 1) := by decide +kernel
theorem dX4_loseTwin_19 : decode cX4_loseTwin 19 = .ok (.iload_n 3, 1) := by decide +kernel
theorem dX4_loseTwin_20 : decode cX4_loseTwin 20 = .ok (.iload_n 2, 1) := by decide +kernel
theorem dX4_loseTwin_21 : decode cX4_loseTwin 21 = .ok (.if_icmp .ge 33, 3) := by decide +kernel
theorem dX4_loseTwin_24 : decode cX4_loseTwin 24 = .ok (.aload_n 0, 1) := by decide +kernel
theorem dX4_loseTwin_25 : decode cX4_loseTwin 25 = .ok (.getfield 41, 3) := by decide +kernel
theorem dX4_loseTwin_28 : decode cX4_loseTwin 28 = .ok (.iload_n 2, 1) := by decide +kernel
theorem dX4_loseTwin_29 : decode cX4_loseTwin 29 = .ok (.iload_n 3, 1) := by decide +kernel
theorem dX4_loseTwin_30 : decode cX4_loseTwin 30 = .ok (.aload_n 0, 1) := by decide +kernel
theorem dX4_loseTwin_31 : decode cX4_loseTwin 31 = .ok (.getfield 19, 3) := by decide +kernel
theorem dX4_loseTwin_34 : decode cX4_loseTwin 34 = .ok (.invokestatic 122, 3) := by decide +kernel
theorem dX4_loseTwin_37 : decode cX4_loseTwin 37 = .ok (.ifCond .eq 11, 3) := by decide +kernel
theorem dX4_loseTwin_40 : decode cX4_loseTwin 40 = .ok (.aload_n 0, 1) := by decide +kernel
theorem dX4_loseTwin_41 : decode cX4_loseTwin 41 = .ok (.iload_n 1, 1) := by decide +kernel
theorem dX4_loseTwin_42 : decode cX4_loseTwin 42 = .ok (.iload_n 3, 1) := by decide +kernel
theorem dX4_loseTwin_43 : decode cX4_loseTwin 43 = .ok (.invokevirtual 126, 3) := by decide +kernel
theorem dX4_loseTwin_46 : decode cX4_loseTwin 46 = .ok (.iconst 1, 1) := by decide +kernel
theorem dX4_loseTwin_47 : decode cX4_loseTwin 47 = .ok (.ireturn, 1) := by decide +kernel
theorem dX4_loseTwin_48 : decode cX4_loseTwin 48 = .ok (.iinc 3 1, 3) := by decide +kernel
theorem dX4_loseTwin_51 : decode cX4_loseTwin 51 = .ok (.goto (-32), 3) := by decide +kernel
theorem dX4_loseTwin_54 : decode cX4_loseTwin 54 = .ok (.iinc 1 1, 3) := by decide +kernel
theorem dX4_loseTwin_57 : decode cX4_loseTwin 57 = .ok (.goto (-55), 3) := by decide +kernel
theorem dX4_loseTwin_60 : decode cX4_loseTwin 60 = .ok (.iconst 0, 1) := by decide +kernel
theorem dX4_loseTwin_61 : decode cX4_loseTwin 61 = .ok (.ireturn, 1) := by decide +kernel
theorem dX4_loseIdle_0 : decode cX4_loseIdle 0 = .ok (.iconst 1, 1) := by decide +kernel
theorem dX4_loseIdle_1 : decode cX4_loseIdle 1 = .ok (.aload_n 0, 1) := by decide +kernel
theorem dX4_loseIdle_2 : decode cX4_loseIdle 2 = .ok (.getfield 105, 3) := by decide +kernel
theorem dX4_loseIdle_5 : decode cX4_loseIdle 5 = .ok (.ishl, 1) := by decide +kernel
theorem dX4_loseIdle_6 : decode cX4_loseIdle 6 = .ok (.istore_n 1, 1) := by decide +kernel
theorem dX4_loseIdle_7 : decode cX4_loseIdle 7 = .ok (.aload_n 0, 1) := by decide +kernel
theorem dX4_loseIdle_8 : decode cX4_loseIdle 8 = .ok (.getfield 90, 3) := by decide +kernel
theorem dX4_loseIdle_11 : decode cX4_loseIdle 11 = .ok (.iconst 1, 1) := by decide +kernel
theorem dX4_loseIdle_12 : decode cX4_loseIdle 12 = .ok (.isub, 1) := by decide +kernel
theorem dX4_loseIdle_13 : decode cX4_loseIdle 13 = .ok (.istore_n 2, 1) := by decide +kernel
theorem dX4_loseIdle_14 : decode cX4_loseIdle 14 = .ok (.iload_n 2, 1) := by decide +kernel
theorem dX4_loseIdle_15 : decode cX4_loseIdle 15 = .ok (.ifCond .lt 73, 3) := by decide +kernel
theorem dX4_loseIdle_18 : decode cX4_loseIdle 18 = .ok (.aload_n 0, 1) := by decide +kernel
theorem dX4_loseIdle_19 : decode cX4_loseIdle 19 = .ok (.invokevirtual 86, 3) := by decide +kernel
theorem dX4_loseIdle_22 : decode cX4_loseIdle 22 = .ok (.iload_n 2, 1) := by decide +kernel
theorem dX4_loseIdle_23 : decode cX4_loseIdle 23 = .ok (.iadd, 1) := by decide +kernel
theorem dX4_loseIdle_24 : decode cX4_loseIdle 24 = .ok (.istore_n 3, 1) := by decide +kernel
theorem dX4_loseIdle_25 : decode cX4_loseIdle 25 = .ok (.iload_n 1, 1) := by decide +kernel
theorem dX4_loseIdle_26 : decode cX4_loseIdle 26 = .ok (.iload_n 3, 1) := by decide +kernel
theorem dX4_loseIdle_27 : decode cX4_loseIdle 27 = .ok (.ishr, 1) := by decide +kernel
theorem dX4_loseIdle_28 : decode cX4_loseIdle 28 = .ok (.iconst 1, 1) := by decide +kernel
theorem dX4_loseIdle_29 : decode cX4_loseIdle 29 = .ok (.iand, 1) := by decide +kernel
theorem dX4_loseIdle_30 : decode cX4_loseIdle 30 = .ok (.ifCond .ne 11, 3) := by decide +kernel
theorem dX4_loseIdle_33 : decode cX4_loseIdle 33 = .ok (.aload_n 0, 1) := by decide +kernel
theorem dX4_loseIdle_34 : decode cX4_loseIdle 34 = .ok (.iload_n 2, 1) := by decide +kernel
theorem dX4_loseIdle_35 : decode cX4_loseIdle 35 = .ok (.iconst 0, 1) := by decide +kernel
theorem dX4_loseIdle_36 : decode cX4_loseIdle 36 = .ok (.invokevirtual 126, 3) := by decide +kernel
theorem dX4_loseIdle_39 : decode cX4_loseIdle 39 = .ok (.iconst 1, 1) := by decide +kernel
theorem dX4_loseIdle_40 : decode cX4_loseIdle 40 = .ok (.ireturn, 1) := by decide +kernel
theorem dX4_loseIdle_41 : decode cX4_loseIdle 41 = .ok (.iload_n 1, 1) := by decide +kernel
theorem dX4_loseIdle_42 : decode cX4_loseIdle 42 = .ok (.iconst 1, 1) := by decide +kernel
theorem dX4_loseIdle_43 : decode cX4_loseIdle 43 = .ok (.aload_n 0, 1) := by decide +kernel
theorem dX4_loseIdle_44 : decode cX4_loseIdle 44 = .ok (.getfield 35, 3) := by decide +kernel
theorem dX4_loseIdle_47 : decode cX4_loseIdle 47 = .ok (.iload_n 2, 1) := by decide +kernel
theorem dX4_loseIdle_48 : decode cX4_loseIdle 48 = .ok (.iaload, 1) := by decide +kernel
theorem dX4_loseIdle_49 : decode cX4_loseIdle 49 = .ok (.ishl, 1) := by decide +kernel
theorem dX4_loseIdle_50 : decode cX4_loseIdle 50 = .ok (.ior, 1) := by decide +kernel
theorem dX4_loseIdle_51 : decode cX4_loseIdle 51 = .ok (.istore_n 1, 1) := by decide +kernel
theorem dX4_loseIdle_52 : decode cX4_loseIdle 52 = .ok (.aload_n 0, 1) := by decide +kernel
theorem dX4_loseIdle_53 : decode cX4_loseIdle 53 = .ok (.getfield 32, 3) := by decide +kernel
theorem dX4_loseIdle_56 : decode cX4_loseIdle 56 = .ok (.iload_n 2, 1) := by decide +kernel
theorem dX4_loseIdle_57 : decode cX4_loseIdle 57 = .ok (.iaload, 1) := by decide +kernel
theorem dX4_loseIdle_58 : decode cX4_loseIdle 58 = .ok (.ifCond .eq 24, 3) := by decide +kernel
theorem dX4_loseIdle_61 : decode cX4_loseIdle 61 = .ok (.aload_n 0, 1) := by decide +kernel
theorem dX4_loseIdle_62 : decode cX4_loseIdle 62 = .ok (.getfield 32, 3) := by decide +kernel
theorem dX4_loseIdle_65 : decode cX4_loseIdle 65 = .ok (.iload_n 2, 1) := by decide +kernel
theorem dX4_loseIdle_66 : decode cX4_loseIdle 66 = .ok (.iaload, 1) := by decide +kernel
theorem dX4_loseIdle_67 : decode cX4_loseIdle 67 = .ok (.iconst 1, 1) := by decide +kernel
theorem dX4_loseIdle_68 : decode cX4_loseIdle 68 = .ok (.if_icmp .eq 14, 3) := by decide +kernel
theorem dX4_loseIdle_71 : decode cX4_loseIdle 71 = .ok (.iload_n 1, 1) := by decide +kernel
theorem dX4_loseIdle_72 : decode cX4_loseIdle 72 = .ok (.iconst 1, 1) := by decide +kernel
theorem dX4_loseIdle_73 : decode cX4_loseIdle 73 = .ok (.aload_n 0, 1) := by decide +kernel
theorem dX4_loseIdle_74 : decode cX4_loseIdle 74 = .ok (.getfield 38, 3) := by decide +kernel
theorem dX4_loseIdle_77 : decode cX4_loseIdle 77 = .ok (.iload_n 2, 1) := by decide +kernel
theorem dX4_loseIdle_78 : decode cX4_loseIdle 78 = .ok (.iaload, 1) := by decide +kernel
theorem dX4_loseIdle_79 : decode cX4_loseIdle 79 = .ok (.ishl, 1) := by decide +kernel
theorem dX4_loseIdle_80 : decode cX4_loseIdle 80 = .ok (.ior, 1) := by decide +kernel
theorem dX4_loseIdle_81 : decode cX4_loseIdle 81 = .ok (.istore_n 1, 1) := by decide +kernel
theorem dX4_loseIdle_82 : decode cX4_loseIdle 82 = .ok (.iinc 2 (-1), 3) := by decide +kernel
theorem dX4_loseIdle_85 : decode cX4_loseIdle 85 = .ok (.goto (-71), 3) := by decide +kernel
theorem dX4_loseIdle_88 : decode cX4_loseIdle 88 = .ok (.iconst 0, 1) := by decide +kernel
theorem dX4_loseIdle_89 : decode cX4_loseIdle 89 = .ok (.ireturn, 1) := by decide +kernel
theorem dX4_clean_0 : decode cX4_clean 0 = .ok (.aload_n 0, 1) := by decide +kernel
theorem dX4_clean_1 : decode cX4_clean 1 = .ok (.getfield 90, 3) := by decide +kernel
theorem dX4_clean_4 : decode cX4_clean 4 = .ok (.istore_n 1, 1) := by decide +kernel
theorem dX4_clean_5 : decode cX4_clean 5 = .ok (.iconst 1, 1) := by decide +kernel
theorem dX4_clean_6 : decode cX4_clean 6 = .ok (.istore_n 2, 1) := by decide +kernel
theorem dX4_clean_7 : decode cX4_clean 7 = .ok (.iload_n 2, 1) := by decide +kernel
theorem dX4_clean_8 : decode cX4_clean 8 = .ok (.ifCond .eq 26, 3) := by decide +kernel
theorem dX4_clean_11 : decode cX4_clean 11 = .ok (.aload_n 0, 1) := by decide +kernel
theorem dX4_clean_12 : decode cX4_clean 12 = .ok (.invokevirtual 130, 3) := by decide +kernel
theorem dX4_clean_15 : decode cX4_clean 15 = .ok (.ifCond .ne 10, 3) := by decide +kernel
theorem dX4_clean_18 : decode cX4_clean 18 = .ok (.aload_n 0, 1) := by decide +kernel
theorem dX4_clean_19 : decode cX4_clean 19 = .ok (.invokevirtual 134, 3) := by decide +kernel
theorem dX4_clean_22 : decode cX4_clean 22 = .ok (.ifCond .eq 7, 3) := by decide +kernel
theorem dX4_clean_25 : decode cX4_clean 25 = .ok (.iconst 1, 1) := by decide +kernel
theorem dX4_clean_26 : decode cX4_clean 26 = .ok (.goto 4, 3) := by decide +kernel
theorem dX4_clean_29 : decode cX4_clean 29 = .ok (.iconst 0, 1) := by decide +kernel
theorem dX4_clean_30 : decode cX4_clean 30 = .ok (.istore_n 2, 1) := by decide +kernel
theorem dX4_clean_31 : decode cX4_clean 31 = .ok (.goto (-24), 3) := by decide +kernel
theorem dX4_clean_34 : decode cX4_clean 34 = .ok (.iload_n 1, 1) := by decide +kernel
theorem dX4_clean_35 : decode cX4_clean 35 = .ok (.aload_n 0, 1) := by decide +kernel
theorem dX4_clean_36 : decode cX4_clean 36 = .ok (.getfield 90, 3) := by decide +kernel
theorem dX4_clean_39 : decode cX4_clean 39 = .ok (.isub, 1) := by decide +kernel
theorem dX4_clean_40 : decode cX4_clean 40 = .ok (.ireturn, 1) := by decide +kernel
theorem dX4_turns_0 : decode cX4_turns 0 = .ok (.iload_n 0, 1) := by decide +kernel
theorem dX4_turns_1 : decode cX4_turns 1 = .ok (.iconst 2, 1) := by decide +kernel
theorem dX4_turns_2 : decode cX4_turns 2 = .ok (.if_icmp .lt 8, 3) := by decide +kernel
theorem dX4_turns_5 : decode cX4_turns 5 = .ok (.iload_n 0, 1) := by decide +kernel
theorem dX4_turns_6 : decode cX4_turns 6 = .ok (.iconst 5, 1) := by decide +kernel
theorem dX4_turns_7 : decode cX4_turns 7 = .ok (.if_icmp .le 15, 3) := by decide +kernel
theorem dX4_turns_10 : decode cX4_turns 10 = .ok (.iload_n 0, 1) := by decide +kernel
theorem dX4_turns_11 : decode cX4_turns 11 = .ok (.bipush 7, 2) := by decide +kernel
theorem dX4_turns_13 : decode cX4_turns 13 = .ok (.if_icmp .eq 9, 3) := by decide +kernel
theorem dX4_turns_16 : decode cX4_turns 16 = .ok (.iload_n 0, 1) := by decide +kernel
theorem dX4_turns_17 : decode cX4_turns 17 = .ok (.bipush 12, 2) := by decide +kernel
theorem dX4_turns_19 : decode cX4_turns 19 = .ok (.if_icmp .ne 7, 3) := by decide +kernel
theorem dX4_turns_22 : decode cX4_turns 22 = .ok (.iconst 1, 1) := by decide +kernel
theorem dX4_turns_23 : decode cX4_turns 23 = .ok (.goto 4, 3) := by decide +kernel
theorem dX4_turns_26 : decode cX4_turns 26 = .ok (.iconst 0, 1) := by decide +kernel
theorem dX4_turns_27 : decode cX4_turns 27 = .ok (.ireturn, 1) := by decide +kernel
theorem dX4_advance_0 : decode cX4_advance 0 = .ok (.aload_n 0, 1) := by decide +kernel
theorem dX4_advance_1 : decode cX4_advance 1 = .ok (.invokevirtual 86, 3) := by decide +kernel
theorem dX4_advance_4 : decode cX4_advance 4 = .ok (.iload_n 1, 1) := by decide +kernel
theorem dX4_advance_5 : decode cX4_advance 5 = .ok (.iadd, 1) := by decide +kernel
theorem dX4_advance_6 : decode cX4_advance 6 = .ok (.istore_n 2, 1) := by decide +kernel
theorem dX4_advance_7 : decode cX4_advance 7 = .ok (.aload_n 0, 1) := by decide +kernel
theorem dX4_advance_8 : decode cX4_advance 8 = .ok (.getfield 59, 3) := by decide +kernel
theorem dX4_advance_11 : decode cX4_advance 11 = .ok (.iload_n 1, 1) := by decide +kernel
theorem dX4_advance_12 : decode cX4_advance 12 = .ok (.iaload, 1) := by decide +kernel
theorem dX4_advance_13 : decode cX4_advance 13 = .ok (.ifCond .eq 13, 3) := by decide +kernel
theorem dX4_advance_16 : decode cX4_advance 16 = .ok (.aload_n 0, 1) := by decide +kernel
theorem dX4_advance_17 : decode cX4_advance 17 = .ok (.getfield 59, 3) := by decide +kernel
theorem dX4_advance_20 : decode cX4_advance 20 = .ok (.iload_n 1, 1) := by decide +kernel
theorem dX4_advance_21 : decode cX4_advance 21 = .ok (.iaload, 1) := by decide +kernel
theorem dX4_advance_22 : decode cX4_advance 22 = .ok (.iconst 1, 1) := by decide +kernel
theorem dX4_advance_23 : decode cX4_advance 23 = .ok (.if_icmp .ne 7, 3) := by decide +kernel
theorem dX4_advance_26 : decode cX4_advance 26 = .ok (.iconst 1, 1) := by decide +kernel
theorem dX4_advance_27 : decode cX4_advance 27 = .ok (.goto 4, 3) := by decide +kernel
theorem dX4_advance_30 : decode cX4_advance 30 = .ok (.iconst 0, 1) := by decide +kernel
theorem dX4_advance_31 : decode cX4_advance 31 = .ok (.istore_n 3, 1) := by decide +kernel
theorem dX4_advance_32 : decode cX4_advance 32 = .ok (.aload_n 0, 1) := by decide +kernel
theorem dX4_advance_33 : decode cX4_advance 33 = .ok (.getfield 65, 3) := by decide +kernel
theorem dX4_advance_36 : decode cX4_advance 36 = .ok (.iload_n 1, 1) := by decide +kernel
theorem dX4_advance_37 : decode cX4_advance 37 = .ok (.dup2, 1) := by decide +kernel
theorem dX4_advance_38 : decode cX4_advance 38 = .ok (.iaload, 1) := by decide +kernel
theorem dX4_advance_39 : decode cX4_advance 39 = .ok (.iconst 1, 1) := by decide +kernel
theorem dX4_advance_40 : decode cX4_advance 40 = .ok (.iadd, 1) := by decide +kernel
theorem dX4_advance_41 : decode cX4_advance 41 = .ok (.iastore, 1) := by decide +kernel
theorem dX4_advance_42 : decode cX4_advance 42 = .ok (.iload_n 3, 1) := by decide +kernel
theorem dX4_advance_43 : decode cX4_advance 43 = .ok (.ifCond .ne 13, 3) := by decide +kernel
theorem dX4_advance_46 : decode cX4_advance 46 = .ok (.aload_n 0, 1) := by decide +kernel
theorem dX4_advance_47 : decode cX4_advance 47 = .ok (.getfield 65, 3) := by decide +kernel
theorem dX4_advance_50 : decode cX4_advance 50 = .ok (.iload_n 1, 1) := by decide +kernel
theorem dX4_advance_51 : decode cX4_advance 51 = .ok (.iaload, 1) := by decide +kernel
theorem dX4_advance_52 : decode cX4_advance 52 = .ok (.iload_n 2, 1) := by decide +kernel
theorem dX4_advance_53 : decode cX4_advance 53 = .ok (.if_icmp .lt 41, 3) := by decide +kernel
theorem dX4_advance_56 : decode cX4_advance 56 = .ok (.aload_n 0, 1) := by decide +kernel
theorem dX4_advance_57 : decode cX4_advance 57 = .ok (.getfield 62, 3) := by decide +kernel
theorem dX4_advance_60 : decode cX4_advance 60 = .ok (.iload_n 1, 1) := by decide +kernel
theorem dX4_advance_61 : decode cX4_advance 61 = .ok (.dup2, 1) := by decide +kernel
theorem dX4_advance_62 : decode cX4_advance 62 = .ok (.iaload, 1) := by decide +kernel
theorem dX4_advance_63 : decode cX4_advance 63 = .ok (.iconst 1, 1) := by decide +kernel
theorem dX4_advance_64 : decode cX4_advance 64 = .ok (.iadd, 1) := by decide +kernel
theorem dX4_advance_65 : decode cX4_advance 65 = .ok (.iastore, 1) := by decide +kernel
theorem dX4_advance_66 : decode cX4_advance 66 = .ok (.aload_n 0, 1) := by decide +kernel
theorem dX4_advance_67 : decode cX4_advance 67 = .ok (.getfield 65, 3) := by decide +kernel
theorem dX4_advance_70 : decode cX4_advance 70 = .ok (.iload_n 1, 1) := by decide +kernel
theorem dX4_advance_71 : decode cX4_advance 71 = .ok (.aload_n 0, 1) := by decide +kernel
theorem dX4_advance_72 : decode cX4_advance 72 = .ok (.getfield 59, 3) := by decide +kernel
theorem dX4_advance_75 : decode cX4_advance 75 = .ok (.iload_n 1, 1) := by decide +kernel
theorem dX4_advance_76 : decode cX4_advance 76 = .ok (.iaload, 1) := by decide +kernel
theorem dX4_advance_77 : decode cX4_advance 77 = .ok (.invokestatic 137, 3) := by decide +kernel
theorem dX4_advance_80 : decode cX4_advance 80 = .ok (.ifCond .eq 12, 3) := by decide +kernel
theorem dX4_advance_83 : decode cX4_advance 83 = .ok (.aload_n 0, 1) := by decide +kernel
theorem dX4_advance_84 : decode cX4_advance 84 = .ok (.getfield 62, 3) := by decide +kernel
theorem dX4_advance_87 : decode cX4_advance 87 = .ok (.iload_n 1, 1) := by decide +kernel
theorem dX4_advance_88 : decode cX4_advance 88 = .ok (.iaload, 1) := by decide +kernel
theorem dX4_advance_89 : decode cX4_advance 89 = .ok (.goto 4, 3) := by decide +kernel
theorem dX4_advance_92 : decode cX4_advance 92 = .ok (.iconst 0, 1) := by decide +kernel
theorem dX4_advance_93 : decode cX4_advance 93 = .ok (.iastore, 1) := by decide +kernel
theorem dX4_advance_94 : decode cX4_advance 94 = .ok (.aload_n 0, 1) := by decide +kernel
theorem dX4_advance_95 : decode cX4_advance 95 = .ok (.getfield 59, 3) := by decide +kernel
theorem dX4_advance_98 : decode cX4_advance 98 = .ok (.iload_n 1, 1) := by decide +kernel
theorem dX4_advance_99 : decode cX4_advance 99 = .ok (.iaload, 1) := by decide +kernel
theorem dX4_advance_100 : decode cX4_advance 100 = .ok (.bipush 13, 2) := by decide +kernel
theorem dX4_advance_102 : decode cX4_advance 102 = .ok (.if_icmp .ge 83, 3) := by decide +kernel
theorem dX4_advance_105 : decode cX4_advance 105 = .ok (.aload_n 0, 1) := by decide +kernel
theorem dX4_advance_106 : decode cX4_advance 106 = .ok (.getfield 59, 3) := by decide +kernel
theorem dX4_advance_109 : decode cX4_advance 109 = .ok (.iload_n 1, 1) := by decide +kernel
theorem dX4_advance_110 : decode cX4_advance 110 = .ok (.iaload, 1) := by decide +kernel
theorem dX4_advance_111 : decode cX4_advance 111 = .ok (.ifCond .lt 47, 3) := by decide +kernel
theorem dX4_advance_114 : decode cX4_advance 114 = .ok (.aload_n 0, 1) := by decide +kernel
theorem dX4_advance_115 : decode cX4_advance 115 = .ok (.getfield 62, 3) := by decide +kernel
theorem dX4_advance_118 : decode cX4_advance 118 = .ok (.iload_n 1, 1) := by decide +kernel
theorem dX4_advance_119 : decode cX4_advance 119 = .ok (.iaload, 1) := by decide +kernel
theorem dX4_advance_120 : decode cX4_advance 120 = .ok (.iload_n 2, 1) := by decide +kernel
theorem dX4_advance_121 : decode cX4_advance 121 = .ok (.if_icmp .ge 37, 3) := by decide +kernel
theorem dX4_advance_124 : decode cX4_advance 124 = .ok (.aload_n 0, 1) := by decide +kernel
theorem dX4_advance_125 : decode cX4_advance 125 = .ok (.getfield 26, 3) := by decide +kernel
theorem dX4_advance_128 : decode cX4_advance 128 = .ok (.aload_n 0, 1) := by decide +kernel
theorem dX4_advance_129 : decode cX4_advance 129 = .ok (.getfield 59, 3) := by decide +kernel
theorem dX4_advance_132 : decode cX4_advance 132 = .ok (.iload_n 1, 1) := by decide +kernel
