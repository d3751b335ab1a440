theorem dX0_init_0 : decode cX0_init 0 = .ok (.aload_n 0, 1) := by decide +kernel
theorem dX0_init_1 : decode cX0_init 1 = .ok (.invokespecial 3, 3) := by decide +kernel
theorem dX0_init_4 : decode cX0_init 4 = .ok (.aload_n 0, 1) := by decide +kernel
theorem dX0_init_5 : decode cX0_init 5 = .ok (.bipush 13, 2) := by decide +kernel
theorem dX0_init_7 : decode cX0_init 7 = .ok (.newarray .int, 2) := by decide +kernel
theorem dX0_init_9 : decode cX0_init 9 = .ok (.putfield 9, 3) := by decide +kernel
theorem dX0_init_12 : decode cX0_init 12 = .ok (.aload_n 0, 1) := by decide +kernel
theorem dX0_init_13 : decode cX0_init 13 = .ok (.sipush 256, 3) := by decide +kernel
theorem dX0_init_16 : decode cX0_init 16 = .ok (.newarray .int, 2) := by decide +kernel
theorem dX0_init_18 : decode cX0_init 18 = .ok (.putfield 15, 3) := by decide +kernel
theorem dX0_init_21 : decode cX0_init 21 = .ok (.aload_n 0, 1) := by decide +kernel
theorem dX0_init_22 : decode cX0_init 22 = .ok (.new 18, 3) := by decide +kernel
theorem dX0_init_25 : decode cX0_init 25 = .ok (.dup, 1) := by decide +kernel
theorem dX0_init_26 : decode cX0_init 26 = .ok (.invokespecial 20, 3) := by decide +kernel
theorem dX0_init_29 : decode cX0_init 29 = .ok (.putfield 21, 3) := by decide +kernel
theorem dX0_init_32 : decode cX0_init 32 = .ok (.aload_n 0, 1) := by decide +kernel
theorem dX0_init_33 : decode cX0_init 33 = .ok (.new 25, 3) := by decide +kernel
theorem dX0_init_36 : decode cX0_init 36 = .ok (.dup, 1) := by decide +kernel
theorem dX0_init_37 : decode cX0_init 37 = .ok (.invokespecial 27, 3) := by decide +kernel
theorem dX0_init_40 : decode cX0_init 40 = .ok (.putfield 28, 3) := by decide +kernel
theorem dX0_init_43 : decode cX0_init 43 = .ok (.aload_n 0, 1) := by decide +kernel
theorem dX0_init_44 : decode cX0_init 44 = .ok (.new 25, 3) := by decide +kernel
theorem dX0_init_47 : decode cX0_init 47 = .ok (.dup, 1) := by decide +kernel
theorem dX0_init_48 : decode cX0_init 48 = .ok (.invokespecial 27, 3) := by decide +kernel
theorem dX0_init_51 : decode cX0_init 51 = .ok (.putfield 32, 3) := by decide +kernel
theorem dX0_init_54 : decode cX0_init 54 = .ok (.aload_n 0, 1) := by decide +kernel
theorem dX0_init_55 : decode cX0_init 55 = .ok (.bipush (-3), 2) := by decide +kernel
theorem dX0_init_57 : decode cX0_init 57 = .ok (.putfield 35, 3) := by decide +kernel
theorem dX0_init_60 : decode cX0_init 60 = .ok (.return_, 1) := by decide +kernel
theorem dX0_prepare_0 : decode cX0_prepare 0 = .ok (.aload_n 0, 1) := by decide +kernel
theorem dX0_prepare_1 : decode cX0_prepare 1 = .ok (.getfield 21, 3) := by decide +kernel
theorem dX0_prepare_4 : decode cX0_prepare 4 = .ok (.aload_n 1, 1) := by decide +kernel
theorem dX0_prepare_5 : decode cX0_prepare 5 = .ok (.invokevirtual 39, 3) := by decide +kernel
theorem dX0_prepare_8 : decode cX0_prepare 8 = .ok (.aload_n 2, 1) := by decide +kernel
theorem dX0_prepare_9 : decode cX0_prepare 9 = .ok (.iconst 0, 1) := by decide +kernel
theorem dX0_prepare_10 : decode cX0_prepare 10 = .ok (.aload_n 0, 1) := by decide +kernel
theorem dX0_prepare_11 : decode cX0_prepare 11 = .ok (.getfield 9, 3) := by decide +kernel
theorem dX0_prepare_14 : decode cX0_prepare 14 = .ok (.iconst 0, 1) := by decide +kernel
theorem dX0_prepare_15 : decode cX0_prepare 15 = .ok (.bipush 13, 2) := by decide +kernel
theorem dX0_prepare_17 : decode cX0_prepare 17 = .ok (.invokestatic 43, 3) := by decide +kernel
theorem dX0_prepare_20 : decode cX0_prepare 20 = .ok (.aload_n 3, 1) := by decide +kernel
theorem dX0_prepare_21 : decode cX0_prepare 21 = .ok (.iconst 0, 1) := by decide +kernel
theorem dX0_prepare_22 : decode cX0_prepare 22 = .ok (.aload_n 0, 1) := by decide +kernel
theorem dX0_prepare_23 : decode cX0_prepare 23 = .ok (.getfield 15, 3) := by decide +kernel
theorem dX0_prepare_26 : decode cX0_prepare 26 = .ok (.iconst 0, 1) := by decide +kernel
theorem dX0_prepare_27 : decode cX0_prepare 27 = .ok (.sipush 256, 3) := by decide +kernel
theorem dX0_prepare_30 : decode cX0_prepare 30 = .ok (.invokestatic 43, 3) := by decide +kernel
theorem dX0_prepare_33 : decode cX0_prepare 33 = .ok (.return_, 1) := by decide +kernel
theorem dX0_run_0 : decode cX0_run 0 = .ok (.aload_n 0, 1) := by decide +kernel
theorem dX0_run_1 : decode cX0_run 1 = .ok (.iload_n 2, 1) := by decide +kernel
theorem dX0_run_2 : decode cX0_run 2 = .ok (.putfield 49, 3) := by decide +kernel
theorem dX0_run_5 : decode cX0_run 5 = .ok (.aload_n 0, 1) := by decide +kernel
theorem dX0_run_6 : decode cX0_run 6 = .ok (.iload_n 3, 1) := by decide +kernel
theorem dX0_run_7 : decode cX0_run 7 = .ok (.putfield 52, 3) := by decide +kernel
theorem dX0_run_10 : decode cX0_run 10 = .ok (.aload_n 0, 1) := by decide +kernel
theorem dX0_run_11 : decode cX0_run 11 = .ok (.iconst 0, 1) := by decide +kernel
theorem dX0_run_12 : decode cX0_run 12 = .ok (.putfield 56, 3) := by decide +kernel
theorem dX0_run_15 : decode cX0_run 15 = .ok (.aload_n 0, 1) := by decide +kernel
theorem dX0_run_16 : decode cX0_run 16 = .ok (.iconst 0, 1) := by decide +kernel
theorem dX0_run_17 : decode cX0_run 17 = .ok (.putfield 59, 3) := by decide +kernel
theorem dX0_run_20 : decode cX0_run 20 = .ok (.aload_n 0, 1) := by decide +kernel
theorem dX0_run_21 : decode cX0_run 21 = .ok (.iconst 0, 1) := by decide +kernel
theorem dX0_run_22 : decode cX0_run 22 = .ok (.putfield 62, 3) := by decide +kernel
theorem dX0_run_25 : decode cX0_run 25 = .ok (.aload_n 0, 1) := by decide +kernel
theorem dX0_run_26 : decode cX0_run 26 = .ok (.iconst 0, 1) := by decide +kernel
theorem dX0_run_27 : decode cX0_run 27 = .ok (.putfield 65, 3) := by decide +kernel
theorem dX0_run_30 : decode cX0_run 30 = .ok (.aload_n 0, 1) := by decide +kernel
theorem dX0_run_31 : decode cX0_run 31 = .ok (.invokevirtual 68, 3) := by decide +kernel
theorem dX0_run_34 : decode cX0_run 34 = .ok (.iconst 0, 1) := by decide +kernel
theorem dX0_run_35 : decode cX0_run 35 = .ok (.istore 4, 2) := by decide +kernel
theorem dX0_run_37 : decode cX0_run 37 = .ok (.iconst 1, 1) := by decide +kernel
theorem dX0_run_38 : decode cX0_run 38 = .ok (.istore 5, 2) := by decide +kernel
theorem dX0_run_40 : decode cX0_run 40 = .ok (.iload 5, 2) := by decide +kernel
theorem dX0_run_42 : decode cX0_run 42 = .ok (.iload_n 1, 1) := by decide +kernel
theorem dX0_run_43 : decode cX0_run 43 = .ok (.if_icmp .gt 44, 3) := by decide +kernel
theorem dX0_run_46 : decode cX0_run 46 = .ok (.aload_n 0, 1) := by decide +kernel
theorem dX0_run_47 : decode cX0_run 47 = .ok (.getfield 65, 3) := by decide +kernel
theorem dX0_run_50 : decode cX0_run 50 = .ok (.ifCond .ne 37, 3) := by decide +kernel
theorem dX0_run_53 : decode cX0_run 53 = .ok (.aload_n 0, 1) := by decide +kernel
theorem dX0_run_54 : decode cX0_run 54 = .ok (.getfield 56, 3) := by decide +kernel
theorem dX0_run_57 : decode cX0_run 57 = .ok (.ifCond .ne 30, 3) := by decide +kernel
theorem dX0_run_60 : decode cX0_run 60 = .ok (.aload_n 0, 1) := by decide +kernel
theorem dX0_run_61 : decode cX0_run 61 = .ok (.dup, 1) := by decide +kernel
theorem dX0_run_62 : decode cX0_run 62 = .ok (.getfield 62, 3) := by decide +kernel
theorem dX0_run_65 : decode cX0_run 65 = .ok (.iconst 1, 1) := by decide +kernel
theorem dX0_run_66 : decode cX0_run 66 = .ok (.iadd, 1) := by decide +kernel
theorem dX0_run_67 : decode cX0_run 67 = .ok (.putfield 62, 3) := by decide +kernel
theorem dX0_run_70 : decode cX0_run 70 = .ok (.iload 5, 2) := by decide +kernel
theorem dX0_run_72 : decode cX0_run 72 = .ok (.istore 4, 2) := by decide +kernel
theorem dX0_run_74 : decode cX0_run 74 = .ok (.aload_n 0, 1) := by decide +kernel
theorem dX0_run_75 : decode cX0_run 75 = .ok (.iconst 0, 1) := by decide +kernel
theorem dX0_run_76 : decode cX0_run 76 = .ok (.iload 5, 2) := by decide +kernel
theorem dX0_run_78 : decode cX0_run 78 = .ok (.invokevirtual 71, 3) := by decide +kernel
theorem dX0_run_81 : decode cX0_run 81 = .ok (.iinc 5 1, 3) := by decide +kernel
theorem dX0_run_84 : decode cX0_run 84 = .ok (.goto (-44), 3) := by decide +kernel
theorem dX0_run_87 : decode cX0_run 87 = .ok (.aload_n 0, 1) := by decide +kernel
theorem dX0_run_88 : decode cX0_run 88 = .ok (.getfield 56, 3) := by decide +kernel
theorem dX0_run_91 : decode cX0_run 91 = .ok (.ifCond .eq 12, 3) := by decide +kernel
theorem dX0_run_94 : decode cX0_run 94 = .ok (.aload_n 0, 1) := by decide +kernel
theorem dX0_run_95 : decode cX0_run 95 = .ok (.bipush (-6), 2) := by decide +kernel
theorem dX0_run_97 : decode cX0_run 97 = .ok (.putfield 35, 3) := by decide +kernel
theorem dX0_run_100 : decode cX0_run 100 = .ok (.goto 21, 3) := by decide +kernel
theorem dX0_run_103 : decode cX0_run 103 = .ok (.aload_n 0, 1) := by decide +kernel
theorem dX0_run_104 : decode cX0_run 104 = .ok (.aload_n 0, 1) := by decide +kernel
theorem dX0_run_105 : decode cX0_run 105 = .ok (.getfield 65, 3) := by decide +kernel
theorem dX0_run_108 : decode cX0_run 108 = .ok (.ifCond .ne 8, 3) := by decide +kernel
theorem dX0_run_111 : decode cX0_run 111 = .ok (.bipush (-5), 2) := by decide +kernel
theorem dX0_run_113 : decode cX0_run 113 = .ok (.goto 5, 3) := by decide +kernel
theorem dX0_run_116 : decode cX0_run 116 = .ok (.iload 4, 2) := by decide +kernel
theorem dX0_run_118 : decode cX0_run 118 = .ok (.putfield 35, 3) := by decide +kernel
theorem dX0_run_121 : decode cX0_run 121 = .ok (.aload_n 0, 1) := by decide +kernel
theorem dX0_run_122 : decode cX0_run 122 = .ok (.getfield 35, 3) := by decide +kernel
theorem dX0_run_125 : decode cX0_run 125 = .ok (.ireturn, 1) := by decide +kernel
theorem dX0_findGiven_0 : decode cX0_findGiven 0 = .ok (.aload_n 0, 1) := by decide +kernel
theorem dX0_findGiven_1 : decode cX0_findGiven 1 = .ok (.getfield 21, 3) := by decide +kernel
theorem dX0_findGiven_4 : decode cX0_findGiven 4 = .ok (.aload_n 0, 1) := by decide +kernel
theorem dX0_findGiven_5 : decode cX0_findGiven 5 = .ok (.getfield 21, 3) := by decide +kernel
theorem dX0_findGiven_8 : decode cX0_findGiven 8 = .ok (.invokevirtual 75, 3) := by decide +kernel
theorem dX0_findGiven_11 : decode cX0_findGiven 11 = .ok (.aload_n 0, 1) := by decide +kernel
theorem dX0_findGiven_12 : decode cX0_findGiven 12 = .ok (.getfield 15, 3) := by decide +kernel
theorem dX0_findGiven_15 : decode cX0_findGiven 15 = .ok (.invokevirtual 79, 3) := by decide +kernel
theorem dX0_findGiven_18 : decode cX0_findGiven 18 = .ok (.istore_n 1, 1) := by decide +kernel
theorem dX0_findGiven_19 : decode cX0_findGiven 19 = .ok (.iload_n 1, 1) := by decide +kernel
theorem dX0_findGiven_20 : decode cX0_findGiven 20 = .ok (.ifCond .lt 16, 3) := by decide +kernel
theorem dX0_findGiven_23 : decode cX0_findGiven 23 = .ok (.aload_n 0, 1) := by decide +kernel
theorem dX0_findGiven_24 : decode cX0_findGiven 24 = .ok (.getfield 32, 3) := by decide +kernel
theorem dX0_findGiven_27 : decode cX0_findGiven 27 = .ok (.iload_n 1, 1) := by decide +kernel
theorem dX0_findGiven_28 : decode cX0_findGiven 28 = .ok (.invokevirtual 83, 3) := by decide +kernel
theorem dX0_findGiven_31 : decode cX0_findGiven 31 = .ok (.aload_n 0, 1) := by decide +kernel
theorem dX0_findGiven_32 : decode cX0_findGiven 32 = .ok (.iconst 1, 1) := by decide +kernel
theorem dX0_findGiven_33 : decode cX0_findGiven 33 = .ok (.putfield 65, 3) := by decide +kernel
theorem dX0_findGiven_36 : decode cX0_findGiven 36 = .ok (.return_, 1) := by decide +kernel
theorem dX0_isOver_0 : decode cX0_isOver 0 = .ok (.aload_n 0, 1) := by decide +kernel
theorem dX0_isOver_1 : decode cX0_isOver 1 = .ok (.getfield 56, 3) := by decide +kernel
theorem dX0_isOver_4 : decode cX0_isOver 4 = .ok (.ifCond .ne 17, 3) := by decide +kernel
theorem dX0_isOver_7 : decode cX0_isOver 7 = .ok (.aload_n 0, 1) := by decide +kernel
theorem dX0_isOver_8 : decode cX0_isOver 8 = .ok (.getfield 65, 3) := by decide +kernel
theorem dX0_isOver_11 : decode cX0_isOver 11 = .ok (.ifCond .le 14, 3) := by decide +kernel
theorem dX0_isOver_14 : decode cX0_isOver 14 = .ok (.aload_n 0, 1) := by decide +kernel
theorem dX0_isOver_15 : decode cX0_isOver 15 = .ok (.getfield 52, 3) := by decide +kernel
theorem dX0_isOver_18 : decode cX0_isOver 18 = .ok (.ifCond .ne 7, 3) := by decide +kernel
theorem dX0_isOver_21 : decode cX0_isOver 21 = .ok (.iconst 1, 1) := by decide +kernel
theorem dX0_isOver_22 : decode cX0_isOver 22 = .ok (.goto 4, 3) := by decide +kernel
theorem dX0_isOver_25 : decode cX0_isOver 25 = .ok (.iconst 0, 1) := by decide +kernel
theorem dX0_isOver_26 : decode cX0_isOver 26 = .ok (.ireturn, 1) := by decide +kernel
theorem dX0_fill_0 : decode cX0_fill 0 = .ok (.iload_n 1, 1) := by decide +kernel
theorem dX0_fill_1 : decode cX0_fill 1 = .ok (.bipush 12, 2) := by decide +kernel
theorem dX0_fill_3 : decode cX0_fill 3 = .ok (.if_icmp .lt 4, 3) := by decide +kernel
theorem dX0_fill_6 : decode cX0_fill 6 = .ok (.return_, 1) := by decide +kernel
theorem dX0_fill_7 : decode cX0_fill 7 = .ok (.iconst 0, 1) := by decide +kernel
theorem dX0_fill_8 : decode cX0_fill 8 = .ok (.istore_n 3, 1) := by decide +kernel
theorem dX0_fill_9 : decode cX0_fill 9 = .ok (.iload_n 3, 1) := by decide +kernel
theorem dX0_fill_10 : decode cX0_fill 10 = .ok (.bipush 13, 2) := by decide +kernel
theorem dX0_fill_12 : decode cX0_fill 12 = .ok (.if_icmp .ge 45, 3) := by decide +kernel
theorem dX0_fill_15 : decode cX0_fill 15 = .ok (.aload_n 0, 1) := by decide +kernel
theorem dX0_fill_16 : decode cX0_fill 16 = .ok (.invokevirtual 87, 3) := by decide +kernel
theorem dX0_fill_19 : decode cX0_fill 19 = .ok (.ifCond .ne 38, 3) := by decide +kernel
theorem dX0_fill_22 : decode cX0_fill 22 = .ok (.aload_n 0, 1) := by decide +kernel
theorem dX0_fill_23 : decode cX0_fill 23 = .ok (.getfield 9, 3) := by decide +kernel
theorem dX0_fill_26 : decode cX0_fill 26 = .ok (.iload_n 3, 1) := by decide +kernel
theorem dX0_fill_27 : decode cX0_fill 27 = .ok (.iaload, 1) := by decide +kernel
theorem dX0_fill_28 : decode cX0_fill 28 = .ok (.istore 4, 2) := by decide +kernel
theorem dX0_fill_30 : decode cX0_fill 30 = .ok (.iload 4, 2) := by decide +kernel
theorem dX0_fill_32 : decode cX0_fill 32 = .ok (.ifCond .le 19, 3) := by decide +kernel
theorem dX0_fill_35 : decode cX0_fill 35 = .ok (.iload 4, 2) := by decide +kernel
theorem dX0_fill_37 : decode cX0_fill 37 = .ok (.iload_n 2, 1) := by decide +kernel
theorem dX0_fill_38 : decode cX0_fill 38 = .ok (.if_icmp .gt 13, 3) := by decide +kernel
theorem dX0_fill_41 : decode cX0_fill 41 = .ok (.aload_n 0, 1) := by decide +kernel
theorem dX0_fill_42 : decode cX0_fill 42 = .ok (.iload_n 3, 1) := by decide +kernel
theorem dX0_fill_43 : decode cX0_fill 43 = .ok (.iload_n 1, 1) := by decide +kernel
theorem dX0_fill_44 : decode cX0_fill 44 = .ok (.iload_n 2, 1) := by decide +kernel
theorem dX0_fill_45 : decode cX0_fill 45 = .ok (.iload 4, 2) := by decide +kernel
theorem dX0_fill_47 : decode cX0_fill 47 = .ok (.isub, 1) := by decide +kernel
theorem dX0_fill_48 : decode cX0_fill 48 = .ok (.invokevirtual 91, 3) := by decide +kernel
theorem dX0_fill_51 : decode cX0_fill 51 = .ok (.iinc 3 1, 3) := by decide +kernel
theorem dX0_fill_54 : decode cX0_fill 54 = .ok (.goto (-45), 3) := by decide +kernel
theorem dX0_fill_57 : decode cX0_fill 57 = .ok (.return_, 1) := by decide +kernel
theorem dX0_fillWith_0 : decode cX0_fillWith 0 = .ok (.aload_n 0, 1) := by decide +kernel
theorem dX0_fillWith_1 : decode cX0_fillWith 1 = .ok (.getfield 21, 3) := by decide +kernel
theorem dX0_fillWith_4 : decode cX0_fillWith 4 = .ok (.invokevirtual 75, 3) := by decide +kernel
theorem dX0_fillWith_7 : decode cX0_fillWith 7 = .ok (.iload_n 2, 1) := by decide +kernel
theorem dX0_fillWith_8 : decode cX0_fillWith 8 = .ok (.iadd, 1) := by decide +kernel
theorem dX0_fillWith_9 : decode cX0_fillWith 9 = .ok (.istore 4, 2) := by decide +kernel
theorem dX0_fillWith_11 : decode cX0_fillWith 11 = .ok (.iload_n 1, 1) := by decide +kernel
theorem dX0_fillWith_12 : decode cX0_fillWith 12 = .ok (.invokestatic 95, 3) := by decide +kernel
theorem dX0_fillWith_15 : decode cX0_fillWith 15 = .ok (.ifCond .eq 7, 3) := by decide +kernel
theorem dX0_fillWith_18 : decode cX0_fillWith 18 = .ok (.iconst 1, 1) := by decide +kernel
theorem dX0_fillWith_19 : decode cX0_fillWith 19 = .ok (.goto 5, 3) := by decide +kernel
theorem dX0_fillWith_22 : decode cX0_fillWith 22 = .ok (.iload 4, 2) := by decide +kernel
theorem dX0_fillWith_24 : decode cX0_fillWith 24 = .ok (.istore 5, 2) := by decide +kernel
theorem dX0_fillWith_26 : decode cX0_fillWith 26 = .ok (.iload_n 1, 1) := by decide +kernel
theorem dX0_fillWith_27 : decode cX0_fillWith 27 = .ok (.invokestatic 99, 3) := by decide +kernel
theorem dX0_fillWith_30 : decode cX0_fillWith 30 = .ok (.istore 6, 2) := by decide +kernel
theorem dX0_fillWith_32 : decode cX0_fillWith 32 = .ok (.iconst 0, 1) := by decide +kernel
theorem dX0_fillWith_33 : decode cX0_fillWith 33 = .ok (.istore 7, 2) := by decide +kernel
theorem dX0_fillWith_35 : decode cX0_fillWith 35 = .ok (.iload 7, 2) := by decide +kernel
theorem dX0_fillWith_37 : decode cX0_fillWith 37 = .ok (.iload 4, 2) := by decide +kernel
theorem dX0_fillWith_39 : decode cX0_fillWith 39 = .ok (.if_icmp .ge 54, 3) := by decide +kernel
theorem dX0_fillWith_42 : decode cX0_fillWith 42 = .ok (.iload 6, 2) := by decide +kernel
theorem dX0_fillWith_44 : decode cX0_fillWith 44 = .ok (.ifCond .eq 8, 3) := by decide +kernel
theorem dX0_fillWith_47 : decode cX0_fillWith 47 = .ok (.iload 7, 2) := by decide +kernel
theorem dX0_fillWith_49 : decode cX0_fillWith 49 = .ok (.goto 4, 3) := by decide +kernel
theorem dX0_fillWith_52 : decode cX0_fillWith 52 = .ok (.iconst 0, 1) := by decide +kernel
theorem dX0_fillWith_53 : decode cX0_fillWith 53 = .ok (.istore 8, 2) := by decide +kernel
theorem dX0_fillWith_55 : decode cX0_fillWith 55 = .ok (.iload 8, 2) := by decide +kernel
theorem dX0_fillWith_57 : decode cX0_fillWith 57 = .ok (.iload 5, 2) := by decide +kernel
theorem dX0_fillWith_59 : decode cX0_fillWith 59 = .ok (.if_icmp .ge 28, 3) := by decide +kernel
theorem dX0_fillWith_62 : decode cX0_fillWith 62 = .ok (.aload_n 0, 1) := by decide +kernel
theorem dX0_fillWith_63 : decode cX0_fillWith 63 = .ok (.invokevirtual 87, 3) := by decide +kernel
theorem dX0_fillWith_66 : decode cX0_fillWith 66 = .ok (.ifCond .eq 4, 3) := by decide +kernel
theorem dX0_fillWith_69 : decode cX0_fillWith 69 = .ok (.return_, 1) := by decide +kernel
theorem dX0_fillWith_70 : decode cX0_fillWith 70 = .ok (.aload_n 0, 1) := by decide +kernel
theorem dX0_fillWith_71 : decode cX0_fillWith 71 = .ok (.iload_n 2, 1) := by decide +kernel
theorem dX0_fillWith_72 : decode cX0_fillWith 72 = .ok (.iload_n 1, 1) := by decide +kernel
theorem dX0_fillWith_73 : decode cX0_fillWith 73 = .ok (.iload 7, 2) := by decide +kernel
theorem dX0_fillWith_75 : decode cX0_fillWith 75 = .ok (.iload 8, 2) := by decide +kernel
theorem dX0_fillWith_77 : decode cX0_fillWith 77 = .ok (.iload_n 3, 1) := by decide +kernel
theorem dX0_fillWith_78 : decode cX0_fillWith 78 = .ok (.invokevirtual 102, 3) := by decide +kernel
theorem dX0_fillWith_81 : decode cX0_fillWith 81 = .ok (.iinc 8 1, 3) := by decide +kernel
theorem dX0_fillWith_84 : decode cX0_fillWith 84 = .ok (.goto (-29), 3) := by decide +kernel
theorem dX0_fillWith_87 : decode cX0_fillWith 87 = .ok (.iinc 7 1, 3) := by decide +kernel
theorem dX0_fillWith_90 : decode cX0_fillWith 90 = .ok (.goto (-55), 3) := by decide +kernel
theorem dX0_fillWith_93 : decode cX0_fillWith 93 = .ok (.return_, 1) := by decide +kernel
theorem dX0_attempt_0 : decode cX0_attempt 0 = .ok (.aload_n 0, 1) := by decide +kernel
theorem dX0_attempt_1 : decode cX0_attempt 1 = .ok (.getfield 59, 3) := by decide +kernel
theorem dX0_attempt_4 : decode cX0_attempt 4 = .ok (.aload_n 0, 1) := by decide +kernel
theorem dX0_attempt_5 : decode cX0_attempt 5 = .ok (.getfield 49, 3) := by decide +kernel
theorem dX0_attempt_8 : decode cX0_attempt 8 = .ok (.if_icmp .lt 9, 3) := by decide +kernel
theorem dX0_attempt_11 : decode cX0_attempt 11 = .ok (.aload_n 0, 1) := by decide +kernel
theorem dX0_attempt_12 : decode cX0_attempt 12 = .ok (.iconst 1, 1) := by decide +kernel
theorem dX0_attempt_13 : decode cX0_attempt 13 = .ok (.putfield 56, 3) := by decide +kernel
theorem dX0_attempt_16 : decode cX0_attempt 16 = .ok (.return_, 1) := by decide +kernel
theorem dX0_attempt_17 : decode cX0_attempt 17 = .ok (.aload_n 0, 1) := by decide +kernel
theorem dX0_attempt_18 : decode cX0_attempt 18 = .ok (.dup, 1) := by decide +kernel
theorem dX0_attempt_19 : decode cX0_attempt 19 = .ok (.getfield 59, 3) := by decide +kernel
theorem dX0_attempt_22 : decode cX0_attempt 22 = .ok (.iconst 1, 1) := by decide +kernel
theorem dX0_attempt_23 : decode cX0_attempt 23 = .ok (.iadd, 1) := by decide +kernel
theorem dX0_attempt_24 : decode cX0_attempt 24 = .ok (.putfield 59, 3) := by decide +kernel
theorem dX0_attempt_27 : decode cX0_attempt 27 = .ok (.aload_n 0, 1) := by decide +kernel
theorem dX0_attempt_28 : decode cX0_attempt 28 = .ok (.getfield 28, 3) := by decide +kernel
theorem dX0_attempt_31 : decode cX0_attempt 31 = .ok (.iload_n 1, 1) := by decide +kernel
theorem dX0_attempt_32 : decode cX0_attempt 32 = .ok (.iload_n 2, 1) := by decide +kernel
theorem dX0_attempt_33 : decode cX0_attempt 33 = .ok (.iload_n 3, 1) := by decide +kernel
theorem dX0_attempt_34 : decode cX0_attempt 34 = .ok (.iload 4, 2) := by decide +kernel
theorem dX0_attempt_36 : decode cX0_attempt 36 = .ok (.invokevirtual 106, 3) := by decide +kernel
theorem dX0_attempt_39 : decode cX0_attempt 39 = .ok (.aload_n 0, 1) := by decide +kernel
theorem dX0_attempt_40 : decode cX0_attempt 40 = .ok (.getfield 21, 3) := by decide +kernel
theorem dX0_attempt_43 : decode cX0_attempt 43 = .ok (.invokevirtual 75, 3) := by decide +kernel
theorem dX0_attempt_46 : decode cX0_attempt 46 = .ok (.iload_n 1, 1) := by decide +kernel
theorem dX0_attempt_47 : decode cX0_attempt 47 = .ok (.iadd, 1) := by decide +kernel
theorem dX0_attempt_48 : decode cX0_attempt 48 = .ok (.istore 6, 2) := by decide +kernel
theorem dX0_attempt_50 : decode cX0_attempt 50 = .ok (.iload 5, 2) := by decide +kernel
theorem dX0_attempt_52 : decode cX0_attempt 52 = .ok (.ifCond .ne 29, 3) := by decide +kernel
theorem dX0_attempt_55 : decode cX0_attempt 55 = .ok (.aload_n 0, 1) := by decide +kernel
theorem dX0_attempt_56 : decode cX0_attempt 56 = .ok (.getfield 21, 3) := by decide +kernel
theorem dX0_attempt_59 : decode cX0_attempt 59 = .ok (.aload_n 0, 1) := by decide +kernel
theorem dX0_attempt_60 : decode cX0_attempt 60 = .ok (.getfield 15, 3) := by decide +kernel
theorem dX0_attempt_63 : decode cX0_attempt 63 = .ok (.iload_n 2, 1) := by decide +kernel
theorem dX0_attempt_64 : decode cX0_attempt 64 = .ok (.iload_n 3, 1) := by decide +kernel
theorem dX0_attempt_65 : decode cX0_attempt 65 = .ok (.iload 4, 2) := by decide +kernel
theorem dX0_attempt_67 : decode cX0_attempt 67 = .ok (.invokevirtual 110, 3) := by decide +kernel
theorem dX0_attempt_70 : decode cX0_attempt 70 = .ok (.ifCond .eq 10, 3) := by decide +kernel
theorem dX0_attempt_73 : decode cX0_attempt 73 = .ok (.aload_n 0, 1) := by decide +kernel
theorem dX0_attempt_74 : decode cX0_attempt 74 = .ok (.iload_n 1, 1) := by decide +kernel
theorem dX0_attempt_75 : decode cX0_attempt 75 = .ok (.iload 6, 2) := by decide +kernel
theorem dX0_attempt_77 : decode cX0_attempt 77 = .ok (.invokevirtual 114, 3) := by decide +kernel
theorem dX0_attempt_80 : decode cX0_attempt 80 = .ok (.return_, 1) := by decide +kernel
theorem dX0_attempt_81 : decode cX0_attempt 81 = .ok (.aload_n 0, 1) := by decide +kernel
theorem dX0_attempt_82 : decode cX0_attempt 82 = .ok (.getfield 21, 3) := by decide +kernel
theorem dX0_attempt_85 : decode cX0_attempt 85 = .ok (.iload 6, 2) := by decide +kernel
theorem dX0_attempt_87 : decode cX0_attempt 87 = .ok (.iload_n 2, 1) := by decide +kernel
theorem dX0_attempt_88 : decode cX0_attempt 88 = .ok (.iload_n 3, 1) := by decide +kernel
theorem dX0_attempt_89 : decode cX0_attempt 89 = .ok (.iload 4, 2) := by decide +kernel
theorem dX0_attempt_91 : decode cX0_attempt 91 = .ok (.invokevirtual 117, 3) := by decide +kernel
theorem dX0_attempt_94 : decode cX0_attempt 94 = .ok (.aload_n 0, 1) := by decide +kernel
theorem dX0_attempt_95 : decode cX0_attempt 95 = .ok (.getfield 21, 3) := by decide +kernel
theorem dX0_attempt_98 : decode cX0_attempt 98 = .ok (.iload 6, 2) := by decide +kernel
theorem dX0_attempt_100 : decode cX0_attempt 100 = .ok (.invokevirtual 120, 3) := by decide +kernel
theorem dX0_attempt_103 : decode cX0_attempt 103 = .ok (.ifCond .ge 12, 3) := by decide +kernel
theorem dX0_attempt_106 : decode cX0_attempt 106 = .ok (.aload_n 0, 1) := by decide +kernel
theorem dX0_attempt_107 : decode cX0_attempt 107 = .ok (.iload_n 1, 1) := by decide +kernel
theorem dX0_attempt_108 : decode cX0_attempt 108 = .ok (.iconst 1, 1) := by decide +kernel
theorem dX0_attempt_109 : decode cX0_attempt 109 = .ok (.iadd, 1) := by decide +kernel
theorem dX0_attempt_110 : decode cX0_attempt 110 = .ok (.iload 5, 2) := by decide +kernel
theorem dX0_attempt_112 : decode cX0_attempt 112 = .ok (.invokevirtual 71, 3) := by decide +kernel
theorem dX0_attempt_115 : decode cX0_attempt 115 = .ok (.return_, 1) := by decide +kernel
theorem dX0_hit_0 : decode cX0_hit 0 = .ok (.aload_n 0, 1) := by decide +kernel
theorem dX0_hit_1 : decode cX0_hit 1 = .ok (.dup, 1) := by decide +kernel
theorem dX0_hit_2 : decode cX0_hit 2 = .ok (.getfield 65, 3) := by decide +kernel
theorem dX0_hit_5 : decode cX0_hit 5 = .ok (.iconst 1, 1) := by decide +kernel
theorem dX0_hit_6 : decode cX0_hit 6 = .ok (.iadd, 1) := by decide +kernel
theorem dX0_hit_7 : decode cX0_hit 7 = .ok (.putfield 65, 3) := by decide +kernel
theorem dX0_hit_10 : decode cX0_hit 10 = .ok (.aload_n 0, 1) := by decide +kernel
theorem dX0_hit_11 : decode cX0_hit 11 = .ok (.getfield 65, 3) := by decide +kernel
theorem dX0_hit_14 : decode cX0_hit 14 = .ok (.iconst 1, 1) := by decide +kernel
theorem dX0_hit_15 : decode cX0_hit 15 = .ok (.if_icmp .ne 32, 3) := by decide +kernel
theorem dX0_hit_18 : decode cX0_hit 18 = .ok (.aload_n 0, 1) := by decide +kernel
theorem dX0_hit_19 : decode cX0_hit 19 = .ok (.getfield 28, 3) := by decide +kernel
theorem dX0_hit_22 : decode cX0_hit 22 = .ok (.iload_n 1, 1) := by decide +kernel
theorem dX0_hit_23 : decode cX0_hit 23 = .ok (.iconst 1, 1) := by decide +kernel
theorem dX0_hit_24 : decode cX0_hit 24 = .ok (.iadd, 1) := by decide +kernel
theorem dX0_hit_25 : decode cX0_hit 25 = .ok (.putfield 124, 3) := by decide +kernel
theorem dX0_hit_28 : decode cX0_hit 28 = .ok (.aload_n 0, 1) := by decide +kernel
theorem dX0_hit_29 : decode cX0_hit 29 = .ok (.getfield 28, 3) := by decide +kernel
theorem dX0_hit_32 : decode cX0_hit 32 = .ok (.iload_n 2, 1) := by decide +kernel
theorem dX0_hit_33 : decode cX0_hit 33 = .ok (.putfield 127, 3) := by decide +kernel
theorem dX0_hit_36 : decode cX0_hit 36 = .ok (.aload_n 0, 1) := by decide +kernel
theorem dX0_hit_37 : decode cX0_hit 37 = .ok (.getfield 32, 3) := by decide +kernel
theorem dX0_hit_40 : decode cX0_hit 40 = .ok (.aload_n 0, 1) := by decide +kernel
theorem dX0_hit_41 : decode cX0_hit 41 = .ok (.getfield 28, 3) := by decide +kernel
theorem dX0_hit_44 : decode cX0_hit 44 = .ok (.invokevirtual 130, 3) := by decide +kernel
theorem dX0_hit_47 : decode cX0_hit 47 = .ok (.return_, 1) := by decide +kernel
theorem dX1_init_0 : decode cX1_init 0 = .ok (.aload_n 0, 1) := by decide +kernel
theorem dX1_init_1 : decode cX1_init 1 = .ok (.invokespecial 3, 3) := by decide +kernel
theorem dX1_init_4 : decode cX1_init 4 = .ok (.aload_n 0, 1) := by decide +kernel
theorem dX1_init_5 : decode cX1_init 5 = .ok (.bipush 12, 2) := by decide +kernel
theorem dX1_init_7 : decode cX1_init 7 = .ok (.newarray .int, 2) := by decide +kernel
theorem dX1_init_9 : decode cX1_init 9 = .ok (.putfield 9, 3) := by decide +kernel
theorem dX1_init_12 : decode cX1_init 12 = .ok (.aload_n 0, 1) := by decide +kernel
theorem dX1_init_13 : decode cX1_init 13 = .ok (.bipush 12, 2) := by decide +kernel
theorem dX1_init_15 : decode cX1_init 15 = .ok (.newarray .int, 2) := by decide +kernel
theorem dX1_init_17 : decode cX1_init 17 = .ok (.putfield 15, 3) := by decide +kernel
theorem dX1_init_20 : decode cX1_init 20 = .ok (.aload_n 0, 1) := by decide +kernel
theorem dX1_init_21 : decode cX1_init 21 = .ok (.bipush 12, 2) := by decide +kernel
theorem dX1_init_23 : decode cX1_init 23 = .ok (.newarray .int, 2) := by decide +kernel
theorem dX1_init_25 : decode cX1_init 25 = .ok (.putfield 18, 3) := by decide +kernel
theorem dX1_init_28 : decode cX1_init 28 = .ok (.return_, 1) := by decide +kernel
theorem dX1_empty_0 : decode cX1_empty 0 = .ok (.aload_n 0, 1) := by decide +kernel
theorem dX1_empty_1 : decode cX1_empty 1 = .ok (.iconst 0, 1) := by decide +kernel
theorem dX1_empty_2 : decode cX1_empty 2 = .ok (.putfield 21, 3) := by decide +kernel
theorem dX1_empty_5 : decode cX1_empty 5 = .ok (.aload_n 0, 1) := by decide +kernel
theorem dX1_empty_6 : decode cX1_empty 6 = .ok (.iload_n 1, 1) := by decide +kernel
theorem dX1_empty_7 : decode cX1_empty 7 = .ok (.putfield 25, 3) := by decide +kernel
theorem dX1_empty_10 : decode cX1_empty 10 = .ok (.return_, 1) := by decide +kernel
theorem dX1_put_0 : decode cX1_put 0 = .ok (.aload_n 0, 1) := by decide +kernel
theorem dX1_put_1 : decode cX1_put 1 = .ok (.getfield 9, 3) := by decide +kernel
theorem dX1_put_4 : decode cX1_put 4 = .ok (.iload_n 1, 1) := by decide +kernel
theorem dX1_put_5 : decode cX1_put 5 = .ok (.iload_n 2, 1) := by decide +kernel
theorem dX1_put_6 : decode cX1_put 6 = .ok (.iastore, 1) := by decide +kernel
theorem dX1_put_7 : decode cX1_put 7 = .ok (.aload_n 0, 1) := by decide +kernel
theorem dX1_put_8 : decode cX1_put 8 = .ok (.getfield 15, 3) := by decide +kernel
theorem dX1_put_11 : decode cX1_put 11 = .ok (.iload_n 1, 1) := by decide +kernel
theorem dX1_put_12 : decode cX1_put 12 = .ok (.iload_n 3, 1) := by decide +kernel
theorem dX1_put_13 : decode cX1_put 13 = .ok (.iastore, 1) := by decide +kernel
theorem dX1_put_14 : decode cX1_put 14 = .ok (.aload_n 0, 1) := by decide +kernel
theorem dX1_put_15 : decode cX1_put 15 = .ok (.getfield 18, 3) := by decide +kernel
theorem dX1_put_18 : decode cX1_put 18 = .ok (.iload_n 1, 1) := by decide +kernel
theorem dX1_put_19 : decode cX1_put 19 = .ok (.iload 4, 2) := by decide +kernel
theorem dX1_put_21 : decode cX1_put 21 = .ok (.iastore, 1) := by decide +kernel
theorem dX1_put_22 : decode cX1_put 22 = .ok (.return_, 1) := by decide +kernel
theorem dX1_copyFrom_0 : decode cX1_copyFrom 0 = .ok (.iconst 0, 1) := by decide +kernel
theorem dX1_copyFrom_1 : decode cX1_copyFrom 1 = .ok (.istore_n 2, 1) := by decide +kernel
theorem dX1_copyFrom_2 : decode cX1_copyFrom 2 = .ok (.iload_n 2, 1) := by decide +kernel
theorem dX1_copyFrom_3 : decode cX1_copyFrom 3 = .ok (.aload_n 1, 1) := by decide +kernel
theorem dX1_copyFrom_4 : decode cX1_copyFrom 4 = .ok (.getfield 21, 3) := by decide +kernel
theorem dX1_copyFrom_7 : decode cX1_copyFrom 7 = .ok (.if_icmp .ge 32, 3) := by decide +kernel
theorem dX1_copyFrom_10 : decode cX1_copyFrom 10 = .ok (.aload_n 0, 1) := by decide +kernel
theorem dX1_copyFrom_11 : decode cX1_copyFrom 11 = .ok (.iload_n 2, 1) := by decide +kernel
theorem dX1_copyFrom_12 : decode cX1_copyFrom 12 = .ok (.aload_n 1, 1) := by decide +kernel
theorem dX1_copyFrom_13 : decode cX1_copyFrom 13 = .ok (.getfield 9, 3) := by decide +kernel
theorem dX1_copyFrom_16 : decode cX1_copyFrom 16 = .ok (.iload_n 2, 1) := by decide +kernel
theorem dX1_copyFrom_17 : decode cX1_copyFrom 17 = .ok (.iaload, 1) := by decide +kernel
theorem dX1_copyFrom_18 : decode cX1_copyFrom 18 = .ok (.aload_n 1, 1) := by decide +kernel
theorem dX1_copyFrom_19 : decode cX1_copyFrom 19 = .ok (.getfield 15, 3) := by decide +kernel
theorem dX1_copyFrom_22 : decode cX1_copyFrom 22 = .ok (.iload_n 2, 1) := by decide +kernel
theorem dX1_copyFrom_23 : decode cX1_copyFrom 23 = .ok (.iaload, 1) := by decide +kernel
theorem dX1_copyFrom_24 : decode cX1_copyFrom 24 = .ok (.aload_n 1, 1) := by decide +kernel
theorem dX1_copyFrom_25 : decode cX1_copyFrom 25 = .ok (.getfield 18, 3) := by decide +kernel
theorem dX1_copyFrom_28 : decode cX1_copyFrom 28 = .ok (.iload_n 2, 1) := by decide +kernel
theorem dX1_copyFrom_29 : decode cX1_copyFrom 29 = .ok (.iaload, 1) := by decide +kernel
theorem dX1_copyFrom_30 : decode cX1_copyFrom 30 = .ok (.invokevirtual 28, 3) := by decide +kernel
theorem dX1_copyFrom_33 : decode cX1_copyFrom 33 = .ok (.iinc 2 1, 3) := by decide +kernel
theorem dX1_copyFrom_36 : decode cX1_copyFrom 36 = .ok (.goto (-34), 3) := by decide +kernel
theorem dX1_copyFrom_39 : decode cX1_copyFrom 39 = .ok (.aload_n 0, 1) := by decide +kernel
theorem dX1_copyFrom_40 : decode cX1_copyFrom 40 = .ok (.aload_n 1, 1) := by decide +kernel
theorem dX1_copyFrom_41 : decode cX1_copyFrom 41 = .ok (.getfield 21, 3) := by decide +kernel
theorem dX1_copyFrom_44 : decode cX1_copyFrom 44 = .ok (.putfield 21, 3) := by decide +kernel
theorem dX1_copyFrom_47 : decode cX1_copyFrom 47 = .ok (.aload_n 0, 1) := by decide +kernel
theorem dX1_copyFrom_48 : decode cX1_copyFrom 48 = .ok (.aload_n 1, 1) := by decide +kernel
theorem dX1_copyFrom_49 : decode cX1_copyFrom 49 = .ok (.getfield 25, 3) := by decide +kernel
theorem dX1_copyFrom_52 : decode cX1_copyFrom 52 = .ok (.putfield 25, 3) := by decide +kernel
theorem dX1_copyFrom_55 : decode cX1_copyFrom 55 = .ok (.return_, 1) := by decide +kernel
theorem dX1_remove_0 : decode cX1_remove 0 = .ok (.iload_n 1, 1) := by decide +kernel
theorem dX1_remove_1 : decode cX1_remove 1 = .ok (.iconst 1, 1) := by decide +kernel
theorem dX1_remove_2 : decode cX1_remove 2 = .ok (.iadd, 1) := by decide +kernel
theorem dX1_remove_3 : decode cX1_remove 3 = .ok (.istore 4, 2) := by decide +kernel
theorem dX1_remove_5 : decode cX1_remove 5 = .ok (.iload 4, 2) := by decide +kernel
theorem dX1_remove_7 : decode cX1_remove 7 = .ok (.aload_n 0, 1) := by decide +kernel
theorem dX1_remove_8 : decode cX1_remove 8 = .ok (.getfield 21, 3) := by decide +kernel
theorem dX1_remove_11 : decode cX1_remove 11 = .ok (.if_icmp .ge 56, 3) := by decide +kernel
theorem dX1_remove_14 : decode cX1_remove 14 = .ok (.aload_n 0, 1) := by decide +kernel
theorem dX1_remove_15 : decode cX1_remove 15 = .ok (.getfield 15, 3) := by decide +kernel
theorem dX1_remove_18 : decode cX1_remove 18 = .ok (.iload 4, 2) := by decide +kernel
theorem dX1_remove_20 : decode cX1_remove 20 = .ok (.iaload, 1) := by decide +kernel
theorem dX1_remove_21 : decode cX1_remove 21 = .ok (.iload_n 2, 1) := by decide +kernel
theorem dX1_remove_22 : decode cX1_remove 22 = .ok (.iload_n 3, 1) := by decide +kernel
theorem dX1_remove_23 : decode cX1_remove 23 = .ok (.invokestatic 32, 3) := by decide +kernel
theorem dX1_remove_26 : decode cX1_remove 26 = .ok (.istore 5, 2) := by decide +kernel
theorem dX1_remove_28 : decode cX1_remove 28 = .ok (.aload_n 0, 1) := by decide +kernel
theorem dX1_remove_29 : decode cX1_remove 29 = .ok (.getfield 18, 3) := by decide +kernel
theorem dX1_remove_32 : decode cX1_remove 32 = .ok (.iload 4, 2) := by decide +kernel
theorem dX1_remove_34 : decode cX1_remove 34 = .ok (.iaload, 1) := by decide +kernel
theorem dX1_remove_35 : decode cX1_remove 35 = .ok (.iload_n 2, 1) := by decide +kernel
theorem dX1_remove_36 : decode cX1_remove 36 = .ok (.iload_n 3, 1) := by decide +kernel
theorem dX1_remove_37 : decode cX1_remove 37 = .ok (.invokestatic 32, 3) := by decide +kernel
theorem dX1_remove_40 : decode cX1_remove 40 = .ok (.istore 6, 2) := by decide +kernel
theorem dX1_remove_42 : decode cX1_remove 42 = .ok (.aload_n 0, 1) := by decide +kernel
theorem dX1_remove_43 : decode cX1_remove 43 = .ok (.iload 4, 2) := by decide +kernel
theorem dX1_remove_45 : decode cX1_remove 45 = .ok (.iconst 1, 1) := by decide +kernel
theorem dX1_remove_46 : decode cX1_remove 46 = .ok (.isub, 1) := by decide +kernel
theorem dX1_remove_47 : decode cX1_remove 47 = .ok (.aload_n 0, 1) := by decide +kernel
theorem dX1_remove_48 : decode cX1_remove 48 = .ok (.getfield 9, 3) := by decide +kernel
theorem dX1_remove_51 : decode cX1_remove 51 = .ok (.iload 4, 2) := by decide +kernel
theorem dX1_remove_53 : decode cX1_remove 53 = .ok (.iaload, 1) := by decide +kernel
theorem dX1_remove_54 : decode cX1_remove 54 = .ok (.iload 5, 2) := by decide +kernel
theorem dX1_remove_56 : decode cX1_remove 56 = .ok (.iload 6, 2) := by decide +kernel
theorem dX1_remove_58 : decode cX1_remove 58 = .ok (.invokevirtual 28, 3) := by decide +kernel
theorem dX1_remove_61 : decode cX1_remove 61 = .ok (.iinc 4 1, 3) := by decide +kernel
theorem dX1_remove_64 : decode cX1_remove 64 = .ok (.goto (-59), 3) := by decide +kernel
theorem dX1_remove_67 : decode cX1_remove 67 = .ok (.aload_n 0, 1) := by decide +kernel
theorem dX1_remove_68 : decode cX1_remove 68 = .ok (.dup, 1) := by decide +kernel
theorem dX1_remove_69 : decode cX1_remove 69 = .ok (.getfield 21, 3) := by decide +kernel
theorem dX1_remove_72 : decode cX1_remove 72 = .ok (.iconst 1, 1) := by decide +kernel
theorem dX1_remove_73 : decode cX1_remove 73 = .ok (.isub, 1) := by decide +kernel
theorem dX1_remove_74 : decode cX1_remove 74 = .ok (.putfield 21, 3) := by decide +kernel
theorem dX1_remove_77 : decode cX1_remove 77 = .ok (.aload_n 0, 1) := by decide +kernel
theorem dX1_remove_78 : decode cX1_remove 78 = .ok (.aload_n 0, 1) := by decide +kernel
theorem dX1_remove_79 : decode cX1_remove 79 = .ok (.getfield 25, 3) := by decide +kernel
theorem dX1_remove_82 : decode cX1_remove 82 = .ok (.iload_n 2, 1) := by decide +kernel
theorem dX1_remove_83 : decode cX1_remove 83 = .ok (.iload_n 3, 1) := by decide +kernel
theorem dX1_remove_84 : decode cX1_remove 84 = .ok (.invokestatic 32, 3) := by decide +kernel
theorem dX1_remove_87 : decode cX1_remove 87 = .ok (.putfield 25, 3) := by decide +kernel
theorem dX1_remove_90 : decode cX1_remove 90 = .ok (.return_, 1) := by decide +kernel
theorem dX1_renumbered_0 : decode cX1_renumbered 0 = .ok (.iload_n 0, 1) := by decide +kernel
theorem dX1_renumbered_1 : decode cX1_renumbered 1 = .ok (.iload_n 1, 1) := by decide +kernel
theorem dX1_renumbered_2 : decode cX1_renumbered 2 = .ok (.if_icmp .ne 5, 3) := by decide +kernel
theorem dX1_renumbered_5 : decode cX1_renumbered 5 = .ok (.iload_n 2, 1) := by decide +kernel
theorem dX1_renumbered_6 : decode cX1_renumbered 6 = .ok (.ireturn, 1) := by decide +kernel
theorem dX1_renumbered_7 : decode cX1_renumbered 7 = .ok (.iload_n 0, 1) := by decide +kernel
theorem dX1_renumbered_8 : decode cX1_renumbered 8 = .ok (.iload_n 1, 1) := by decide +kernel
theorem dX1_renumbered_9 : decode cX1_renumbered 9 = .ok (.if_icmp .le 9, 3) := by decide +kernel
theorem dX1_renumbered_12 : decode cX1_renumbered 12 = .ok (.iload_n 0, 1) := by decide +kernel
theorem dX1_renumbered_13 : decode cX1_renumbered 13 = .ok (.iconst 1, 1) := by decide +kernel
theorem dX1_renumbered_14 : decode cX1_renumbered 14 = .ok (.isub, 1) := by decide +kernel
theorem dX1_renumbered_15 : decode cX1_renumbered 15 = .ok (.goto 4, 3) := by decide +kernel
theorem dX1_renumbered_18 : decode cX1_renumbered 18 = .ok (.iload_n 0, 1) := by decide +kernel
theorem dX1_renumbered_19 : decode cX1_renumbered 19 = .ok (.ireturn, 1) := by decide +kernel
theorem dX2_init_0 : decode cX2_init 0 = .ok (.aload_n 0, 1) := by decide +kernel
theorem dX2_init_1 : decode cX2_init 1 = .ok (.invokespecial 3, 3) := by decide +kernel
theorem dX2_init_4 : decode cX2_init 4 = .ok (.aload_n 0, 1) := by decide +kernel
theorem dX2_init_5 : decode cX2_init 5 = .ok (.bipush 18, 2) := by decide +kernel
theorem dX2_init_7 : decode cX2_init 7 = .ok (.sipush 256, 3) := by decide +kernel
theorem dX2_init_10 : decode cX2_init 10 = .ok (.multianewarray 9 2, 4) := by decide +kernel
theorem dX2_init_14 : decode cX2_init 14 = .ok (.putfield 11, 3) := by decide +kernel
theorem dX2_init_17 : decode cX2_init 17 = .ok (.aload_n 0, 1) := by decide +kernel
theorem dX2_init_18 : decode cX2_init 18 = .ok (.iconst 1, 1) := by decide +kernel
theorem dX2_init_19 : decode cX2_init 19 = .ok (.putfield 16, 3) := by decide +kernel
theorem dX2_init_22 : decode cX2_init 22 = .ok (.aload_n 0, 1) := by decide +kernel
theorem dX2_init_23 : decode cX2_init 23 = .ok (.iconst 1, 1) := by decide +kernel
theorem dX2_init_24 : decode cX2_init 24 = .ok (.putfield 20, 3) := by decide +kernel
theorem dX2_init_27 : decode cX2_init 27 = .ok (.aload_n 0, 1) := by decide +kernel
theorem dX2_init_28 : decode cX2_init 28 = .ok (.iconst 1, 1) := by decide +kernel
theorem dX2_init_29 : decode cX2_init 29 = .ok (.putfield 23, 3) := by decide +kernel
theorem dX2_init_32 : decode cX2_init 32 = .ok (.aload_n 0, 1) := by decide +kernel
theorem dX2_init_33 : decode cX2_init 33 = .ok (.iconst 2, 1) := by decide +kernel
theorem dX2_init_34 : decode cX2_init 34 = .ok (.putfield 26, 3) := by decide +kernel
theorem dX2_init_37 : decode cX2_init 37 = .ok (.return_, 1) := by decide +kernel
theorem dX2_setInputs_0 : decode cX2_setInputs 0 = .ok (.aload_n 0, 1) := by decide +kernel
theorem dX2_setInputs_1 : decode cX2_setInputs 1 = .ok (.iload_n 1, 1) := by decide +kernel
theorem dX2_setInputs_2 : decode cX2_setInputs 2 = .ok (.putfield 16, 3) := by decide +kernel
theorem dX2_setInputs_5 : decode cX2_setInputs 5 = .ok (.aload_n 0, 1) := by decide +kernel
theorem dX2_setInputs_6 : decode cX2_setInputs 6 = .ok (.iconst 1, 1) := by decide +kernel
theorem dX2_setInputs_7 : decode cX2_setInputs 7 = .ok (.iload_n 1, 1) := by decide +kernel
theorem dX2_setInputs_8 : decode cX2_setInputs 8 = .ok (.ishl, 1) := by decide +kernel
theorem dX2_setInputs_9 : decode cX2_setInputs 9 = .ok (.iconst 1, 1) := by decide +kernel
theorem dX2_setInputs_10 : decode cX2_setInputs 10 = .ok (.isub, 1) := by decide +kernel
theorem dX2_setInputs_11 : decode cX2_setInputs 11 = .ok (.putfield 20, 3) := by decide +kernel
theorem dX2_setInputs_14 : decode cX2_setInputs 14 = .ok (.aload_n 0, 1) := by decide +kernel
theorem dX2_setInputs_15 : decode cX2_setInputs 15 = .ok (.iload_n 2, 1) := by decide +kernel
theorem dX2_setInputs_16 : decode cX2_setInputs 16 = .ok (.putfield 23, 3) := by decide +kernel
theorem dX2_setInputs_19 : decode cX2_setInputs 19 = .ok (.aload_n 0, 1) := by decide +kernel
theorem dX2_setInputs_20 : decode cX2_setInputs 20 = .ok (.iconst 0, 1) := by decide +kernel
theorem dX2_setInputs_21 : decode cX2_setInputs 21 = .ok (.putfield 29, 3) := by decide +kernel
theorem dX2_setInputs_24 : decode cX2_setInputs 24 = .ok (.aload_n 0, 1) := by decide +kernel
theorem dX2_setInputs_25 : decode cX2_setInputs 25 = .ok (.iconst 1, 1) := by decide +kernel
theorem dX2_setInputs_26 : decode cX2_setInputs 26 = .ok (.iload_n 1, 1) := by decide +kernel
theorem dX2_setInputs_27 : decode cX2_setInputs 27 = .ok (.iload_n 2, 1) := by decide +kernel
theorem dX2_setInputs_28 : decode cX2_setInputs 28 = .ok (.imul, 1) := by decide +kernel
theorem dX2_setInputs_29 : decode cX2_setInputs 29 = .ok (.ishl, 1) := by decide +kernel
theorem dX2_setInputs_30 : decode cX2_setInputs 30 = .ok (.putfield 26, 3) := by decide +kernel
theorem dX2_setInputs_33 : decode cX2_setInputs 33 = .ok (.iconst 0, 1) := by decide +kernel
theorem dX2_setInputs_34 : decode cX2_setInputs 34 = .ok (.istore_n 3, 1) := by decide +kernel
theorem dX2_setInputs_35 : decode cX2_setInputs 35 = .ok (.iload_n 3, 1) := by decide +kernel
theorem dX2_setInputs_36 : decode cX2_setInputs 36 = .ok (.iload_n 2, 1) := by decide +kernel
theorem dX2_setInputs_37 : decode cX2_setInputs 37 = .ok (.if_icmp .ge 47, 3) := by decide +kernel
theorem dX2_setInputs_40 : decode cX2_setInputs 40 = .ok (.iconst 0, 1) := by decide +kernel
theorem dX2_setInputs_41 : decode cX2_setInputs 41 = .ok (.istore 4, 2) := by decide +kernel
theorem dX2_setInputs_43 : decode cX2_setInputs 43 = .ok (.iload 4, 2) := by decide +kernel
theorem dX2_setInputs_45 : decode cX2_setInputs 45 = .ok (.aload_n 0, 1) := by decide +kernel
theorem dX2_setInputs_46 : decode cX2_setInputs 46 = .ok (.getfield 26, 3) := by decide +kernel
theorem dX2_setInputs_49 : decode cX2_setInputs 49 = .ok (.if_icmp .ge 29, 3) := by decide +kernel
theorem dX2_setInputs_52 : decode cX2_setInputs 52 = .ok (.aload_n 0, 1) := by decide +kernel
theorem dX2_setInputs_53 : decode cX2_setInputs 53 = .ok (.getfield 11, 3) := by decide +kernel
theorem dX2_setInputs_56 : decode cX2_setInputs 56 = .ok (.iload_n 3, 1) := by decide +kernel
theorem dX2_setInputs_57 : decode cX2_setInputs 57 = .ok (.aaload, 1) := by decide +kernel
theorem dX2_setInputs_58 : decode cX2_setInputs 58 = .ok (.iload 4, 2) := by decide +kernel
theorem dX2_setInputs_60 : decode cX2_setInputs 60 = .ok (.iload 4, 2) := by decide +kernel
theorem dX2_setInputs_62 : decode cX2_setInputs 62 = .ok (.iload_n 1, 1) := by decide +kernel
theorem dX2_setInputs_63 : decode cX2_setInputs 63 = .ok (.iload_n 3, 1) := by decide +kernel
theorem dX2_setInputs_64 : decode cX2_setInputs 64 = .ok (.imul, 1) := by decide +kernel
theorem dX2_setInputs_65 : decode cX2_setInputs 65 = .ok (.ishr, 1) := by decide +kernel
theorem dX2_setInputs_66 : decode cX2_setInputs 66 = .ok (.aload_n 0, 1) := by decide +kernel
theorem dX2_setInputs_67 : decode cX2_setInputs 67 = .ok (.getfield 20, 3) := by decide +kernel
theorem dX2_setInputs_70 : decode cX2_setInputs 70 = .ok (.iand, 1) := by decide +kernel
theorem dX2_setInputs_71 : decode cX2_setInputs 71 = .ok (.iastore, 1) := by decide +kernel
theorem dX2_setInputs_72 : decode cX2_setInputs 72 = .ok (.iinc 4 1, 3) := by decide +kernel
theorem dX2_setInputs_75 : decode cX2_setInputs 75 = .ok (.goto (-32), 3) := by decide +kernel
theorem dX2_setInputs_78 : decode cX2_setInputs 78 = .ok (.iinc 3 1, 3) := by decide +kernel
theorem dX2_setInputs_81 : decode cX2_setInputs 81 = .ok (.goto (-46), 3) := by decide +kernel
theorem dX2_setInputs_84 : decode cX2_setInputs 84 = .ok (.return_, 1) := by decide +kernel
theorem dX2_appendConstant_0 : decode cX2_appendConstant 0 = .ok (.aload_n 0, 1) := by decide +kernel
theorem dX2_appendConstant_1 : decode cX2_appendConstant 1 = .ok (.getfield 11, 3) := by decide +kernel
theorem dX2_appendConstant_4 : decode cX2_appendConstant 4 = .ok (.aload_n 0, 1) := by decide +kernel
theorem dX2_appendConstant_5 : decode cX2_appendConstant 5 = .ok (.invokevirtual 32, 3) := by decide +kernel
theorem dX2_appendConstant_8 : decode cX2_appendConstant 8 = .ok (.aaload, 1) := by decide +kernel
theorem dX2_appendConstant_9 : decode cX2_appendConstant 9 = .ok (.astore_n 2, 1) := by decide +kernel
theorem dX2_appendConstant_10 : decode cX2_appendConstant 10 = .ok (.iconst 0, 1) := by decide +kernel
theorem dX2_appendConstant_11 : decode cX2_appendConstant 11 = .ok (.istore_n 3, 1) := by decide +kernel
theorem dX2_appendConstant_12 : decode cX2_appendConstant 12 = .ok (.iload_n 3, 1) := by decide +kernel
theorem dX2_appendConstant_13 : decode cX2_appendConstant 13 = .ok (.aload_n 0, 1) := by decide +kernel
theorem dX2_appendConstant_14 : decode cX2_appendConstant 14 = .ok (.getfield 26, 3) := by decide +kernel
theorem dX2_appendConstant_17 : decode cX2_appendConstant 17 = .ok (.if_icmp .ge 13, 3) := by decide +kernel
theorem dX2_appendConstant_20 : decode cX2_appendConstant 20 = .ok (.aload_n 2, 1) := by decide +kernel
theorem dX2_appendConstant_21 : decode cX2_appendConstant 21 = .ok (.iload_n 3, 1) := by decide +kernel
theorem dX2_appendConstant_22 : decode cX2_appendConstant 22 = .ok (.iload_n 1, 1) := by decide +kernel
theorem dX2_appendConstant_23 : decode cX2_appendConstant 23 = .ok (.iastore, 1) := by decide +kernel
theorem dX2_appendConstant_24 : decode cX2_appendConstant 24 = .ok (.iinc 3 1, 3) := by decide +kernel
theorem dX2_appendConstant_27 : decode cX2_appendConstant 27 = .ok (.goto (-15), 3) := by decide +kernel
theorem dX2_appendConstant_30 : decode cX2_appendConstant 30 = .ok (.aload_n 0, 1) := by decide +kernel
theorem dX2_appendConstant_31 : decode cX2_appendConstant 31 = .ok (.dup, 1) := by decide +kernel
theorem dX2_appendConstant_32 : decode cX2_appendConstant 32 = .ok (.getfield 29, 3) := by decide +kernel
theorem dX2_appendConstant_35 : decode cX2_appendConstant 35 = .ok (.iconst 1, 1) := by decide +kernel
theorem dX2_appendConstant_36 : decode cX2_appendConstant 36 = .ok (.iadd, 1) := by decide +kernel
theorem dX2_appendConstant_37 : decode cX2_appendConstant 37 = .ok (.putfield 29, 3) := by decide +kernel
theorem dX2_appendConstant_40 : decode cX2_appendConstant 40 = .ok (.return_, 1) := by decide +kernel
theorem dX2_copyGiven_0 : decode cX2_copyGiven 0 = .ok (.aload_n 0, 1) := by decide +kernel
theorem dX2_copyGiven_1 : decode cX2_copyGiven 1 = .ok (.aload_n 1, 1) := by decide +kernel
theorem dX2_copyGiven_2 : decode cX2_copyGiven 2 = .ok (.getfield 16, 3) := by decide +kernel
theorem dX2_copyGiven_5 : decode cX2_copyGiven 5 = .ok (.putfield 16, 3) := by decide +kernel
theorem dX2_copyGiven_8 : decode cX2_copyGiven 8 = .ok (.aload_n 0, 1) := by decide +kernel
theorem dX2_copyGiven_9 : decode cX2_copyGiven 9 = .ok (.aload_n 1, 1) := by decide +kernel
theorem dX2_copyGiven_10 : decode cX2_copyGiven 10 = .ok (.getfield 20, 3) := by decide +kernel
theorem dX2_copyGiven_13 : decode cX2_copyGiven 13 = .ok (.putfield 20, 3) := by decide +kernel
theorem dX2_copyGiven_16 : decode cX2_copyGiven 16 = .ok (.aload_n 0, 1) := by decide +kernel
theorem dX2_copyGiven_17 : decode cX2_copyGiven 17 = .ok (.aload_n 1, 1) := by decide +kernel
theorem dX2_copyGiven_18 : decode cX2_copyGiven 18 = .ok (.getfield 23, 3) := by decide +kernel
theorem dX2_copyGiven_21 : decode cX2_copyGiven 21 = .ok (.putfield 23, 3) := by decide +kernel
theorem dX2_copyGiven_24 : decode cX2_copyGiven 24 = .ok (.aload_n 0, 1) := by decide +kernel
theorem dX2_copyGiven_25 : decode cX2_copyGiven 25 = .ok (.aload_n 1, 1) := by decide +kernel
theorem dX2_copyGiven_26 : decode cX2_copyGiven 26 = .ok (.getfield 29, 3) := by decide +kernel
theorem dX2_copyGiven_29 : decode cX2_copyGiven 29 = .ok (.putfield 29, 3) := by decide +kernel
theorem dX2_copyGiven_32 : decode cX2_copyGiven 32 = .ok (.aload_n 0, 1) := by decide +kernel
theorem dX2_copyGiven_33 : decode cX2_copyGiven 33 = .ok (.aload_n 1, 1) := by decide +kernel
theorem dX2_copyGiven_34 : decode cX2_copyGiven 34 = .ok (.getfield 26, 3) := by decide +kernel
theorem dX2_copyGiven_37 : decode cX2_copyGiven 37 = .ok (.putfield 26, 3) := by decide +kernel
theorem dX2_copyGiven_40 : decode cX2_copyGiven 40 = .ok (.iconst 0, 1) := by decide +kernel
theorem dX2_copyGiven_41 : decode cX2_copyGiven 41 = .ok (.istore_n 2, 1) := by decide +kernel
theorem dX2_copyGiven_42 : decode cX2_copyGiven 42 = .ok (.iload_n 2, 1) := by decide +kernel
theorem dX2_copyGiven_43 : decode cX2_copyGiven 43 = .ok (.aload_n 0, 1) := by decide +kernel
theorem dX2_copyGiven_44 : decode cX2_copyGiven 44 = .ok (.invokevirtual 32, 3) := by decide +kernel
theorem dX2_copyGiven_47 : decode cX2_copyGiven 47 = .ok (.if_icmp .ge 30, 3) := by decide +kernel
theorem dX2_copyGiven_50 : decode cX2_copyGiven 50 = .ok (.aload_n 1, 1) := by decide +kernel
theorem dX2_copyGiven_51 : decode cX2_copyGiven 51 = .ok (.getfield 11, 3) := by decide +kernel
theorem dX2_copyGiven_54 : decode cX2_copyGiven 54 = .ok (.iload_n 2, 1) := by decide +kernel
theorem dX2_copyGiven_55 : decode cX2_copyGiven 55 = .ok (.aaload, 1) := by decide +kernel
theorem dX2_copyGiven_56 : decode cX2_copyGiven 56 = .ok (.iconst 0, 1) := by decide +kernel
theorem dX2_copyGiven_57 : decode cX2_copyGiven 57 = .ok (.aload_n 0, 1) := by decide +kernel
theorem dX2_copyGiven_58 : decode cX2_copyGiven 58 = .ok (.getfield 11, 3) := by decide +kernel
theorem dX2_copyGiven_61 : decode cX2_copyGiven 61 = .ok (.iload_n 2, 1) := by decide +kernel
theorem dX2_copyGiven_62 : decode cX2_copyGiven 62 = .ok (.aaload, 1) := by decide +kernel
theorem dX2_copyGiven_63 : decode cX2_copyGiven 63 = .ok (.iconst 0, 1) := by decide +kernel
theorem dX2_copyGiven_64 : decode cX2_copyGiven 64 = .ok (.aload_n 0, 1) := by decide +kernel
theorem dX2_copyGiven_65 : decode cX2_copyGiven 65 = .ok (.getfield 26, 3) := by decide +kernel
theorem dX2_copyGiven_68 : decode cX2_copyGiven 68 = .ok (.invokestatic 36, 3) := by decide +kernel
theorem dX2_copyGiven_71 : decode cX2_copyGiven 71 = .ok (.iinc 2 1, 3) := by decide +kernel
theorem dX2_copyGiven_74 : decode cX2_copyGiven 74 = .ok (.goto (-32), 3) := by decide +kernel
theorem dX2_copyGiven_77 : decode cX2_copyGiven 77 = .ok (.return_, 1) := by decide +kernel
theorem dX2_given_0 : decode cX2_given 0 = .ok (.aload_n 0, 1) := by decide +kernel
theorem dX2_given_1 : decode cX2_given 1 = .ok (.getfield 23, 3) := by decide +kernel
theorem dX2_given_4 : decode cX2_given 4 = .ok (.aload_n 0, 1) := by decide +kernel
theorem dX2_given_5 : decode cX2_given 5 = .ok (.getfield 29, 3) := by decide +kernel
theorem dX2_given_8 : decode cX2_given 8 = .ok (.iadd, 1) := by decide +kernel
theorem dX2_given_9 : decode cX2_given 9 = .ok (.ireturn, 1) := by decide +kernel
theorem dX2_isWord_0 : decode cX2_isWord 0 = .ok (.iload_n 1, 1) := by decide +kernel
theorem dX2_isWord_1 : decode cX2_isWord 1 = .ok (.ifCond .lt 15, 3) := by decide +kernel
theorem dX2_isWord_4 : decode cX2_isWord 4 = .ok (.iload_n 1, 1) := by decide +kernel
theorem dX2_isWord_5 : decode cX2_isWord 5 = .ok (.aload_n 0, 1) := by decide +kernel
theorem dX2_isWord_6 : decode cX2_isWord 6 = .ok (.getfield 20, 3) := by decide +kernel
theorem dX2_isWord_9 : decode cX2_isWord 9 = .ok (.if_icmp .gt 7, 3) := by decide +kernel
theorem dX2_isWord_12 : decode cX2_isWord 12 = .ok (.iconst 1, 1) := by decide +kernel
theorem dX2_isWord_13 : decode cX2_isWord 13 = .ok (.goto 4, 3) := by decide +kernel
theorem dX2_isWord_16 : decode cX2_isWord 16 = .ok (.iconst 0, 1) := by decide +kernel
theorem dX2_isWord_17 : decode cX2_isWord 17 = .ok (.ireturn, 1) := by decide +kernel
theorem dX2_isAssignment_0 : decode cX2_isAssignment 0 = .ok (.iload_n 1, 1) := by decide +kernel
theorem dX2_isAssignment_1 : decode cX2_isAssignment 1 = .ok (.ifCond .lt 15, 3) := by decide +kernel
theorem dX2_isAssignment_4 : decode cX2_isAssignment 4 = .ok (.iload_n 1, 1) := by decide +kernel
theorem dX2_isAssignment_5 : decode cX2_isAssignment 5 = .ok (.aload_n 0, 1) := by decide +kernel
theorem dX2_isAssignment_6 : decode cX2_isAssignment 6 = .ok (.getfield 26, 3) := by decide +kernel
theorem dX2_isAssignment_9 : decode cX2_isAssignment 9 = .ok (.if_icmp .ge 7, 3) := by decide +kernel
theorem dX2_isAssignment_12 : decode cX2_isAssignment 12 = .ok (.iconst 1, 1) := by decide +kernel
theorem dX2_isAssignment_13 : decode cX2_isAssignment 13 = .ok (.goto 4, 3) := by decide +kernel
theorem dX2_isAssignment_16 : decode cX2_isAssignment 16 = .ok (.iconst 0, 1) := by decide +kernel
theorem dX2_isAssignment_17 : decode cX2_isAssignment 17 = .ok (.ireturn, 1) := by decide +kernel
theorem dX2_make_0 : decode cX2_make 0 = .ok (.aload_n 0, 1) := by decide +kernel
theorem dX2_make_1 : decode cX2_make 1 = .ok (.getfield 11, 3) := by decide +kernel
theorem dX2_make_4 : decode cX2_make 4 = .ok (.iload_n 3, 1) := by decide +kernel
theorem dX2_make_5 : decode cX2_make 5 = .ok (.aaload, 1) := by decide +kernel
theorem dX2_make_6 : decode cX2_make 6 = .ok (.astore 5, 2) := by decide +kernel
theorem dX2_make_8 : decode cX2_make 8 = .ok (.aload_n 0, 1) := by decide +kernel
theorem dX2_make_9 : decode cX2_make 9 = .ok (.getfield 11, 3) := by decide +kernel
theorem dX2_make_12 : decode cX2_make 12 = .ok (.iload 4, 2) := by decide +kernel
theorem dX2_make_14 : decode cX2_make 14 = .ok (.aaload, 1) := by decide +kernel
theorem dX2_make_15 : decode cX2_make 15 = .ok (.astore 6, 2) := by decide +kernel
theorem dX2_make_17 : decode cX2_make 17 = .ok (.aload_n 0, 1) := by decide +kernel
theorem dX2_make_18 : decode cX2_make 18 = .ok (.getfield 11, 3) := by decide +kernel
theorem dX2_make_21 : decode cX2_make 21 = .ok (.iload_n 1, 1) := by decide +kernel
theorem dX2_make_22 : decode cX2_make 22 = .ok (.aaload, 1) := by decide +kernel
theorem dX2_make_23 : decode cX2_make 23 = .ok (.astore 7, 2) := by decide +kernel
theorem dX2_make_25 : decode cX2_make 25 = .ok (.iconst 0, 1) := by decide +kernel
theorem dX2_make_26 : decode cX2_make 26 = .ok (.istore 8, 2) := by decide +kernel
theorem dX2_make_28 : decode cX2_make 28 = .ok (.iload 8, 2) := by decide +kernel
theorem dX2_make_30 : decode cX2_make 30 = .ok (.aload_n 0, 1) := by decide +kernel
theorem dX2_make_31 : decode cX2_make 31 = .ok (.getfield 26, 3) := by decide +kernel
theorem dX2_make_34 : decode cX2_make 34 = .ok (.if_icmp .ge 29, 3) := by decide +kernel
theorem dX2_make_37 : decode cX2_make 37 = .ok (.aload 7, 2) := by decide +kernel
theorem dX2_make_39 : decode cX2_make 39 = .ok (.iload 8, 2) := by decide +kernel
theorem dX2_make_41 : decode cX2_make 41 = .ok (.aload_n 0, 1) := by decide +kernel
theorem dX2_make_42 : decode cX2_make 42 = .ok (.iload_n 2, 1) := by decide +kernel
theorem dX2_make_43 : decode cX2_make 43 = .ok (.aload 5, 2) := by decide +kernel
theorem dX2_make_45 : decode cX2_make 45 = .ok (.iload 8, 2) := by decide +kernel
theorem dX2_make_47 : decode cX2_make 47 = .ok (.iaload, 1) := by decide +kernel
theorem dX2_make_48 : decode cX2_make 48 = .ok (.aload 6, 2) := by decide +kernel
theorem dX2_make_50 : decode cX2_make 50 = .ok (.iload 8, 2) := by decide +kernel
theorem dX2_make_52 : decode cX2_make 52 = .ok (.iaload, 1) := by decide +kernel
theorem dX2_make_53 : decode cX2_make 53 = .ok (.invokevirtual 42, 3) := by decide +kernel
theorem dX2_make_56 : decode cX2_make 56 = .ok (.iastore, 1) := by decide +kernel
theorem dX2_make_57 : decode cX2_make 57 = .ok (.iinc 8 1, 3) := by decide +kernel
theorem dX2_make_60 : decode cX2_make 60 = .ok (.goto (-32), 3) := by decide +kernel
theorem dX2_make_63 : decode cX2_make 63 = .ok (.return_, 1) := by decide +kernel
theorem dX2_makes_0 : decode cX2_makes 0 = .ok (.aload_n 0, 1) := by decide +kernel
theorem dX2_makes_1 : decode cX2_makes 1 = .ok (.getfield 11, 3) := by decide +kernel
theorem dX2_makes_4 : decode cX2_makes 4 = .ok (.iload_n 3, 1) := by decide +kernel
theorem dX2_makes_5 : decode cX2_makes 5 = .ok (.aaload, 1) := by decide +kernel
theorem dX2_makes_6 : decode cX2_makes 6 = .ok (.astore 5, 2) := by decide +kernel
theorem dX2_makes_8 : decode cX2_makes 8 = .ok (.aload_n 0, 1) := by decide +kernel
theorem dX2_makes_9 : decode cX2_makes 9 = .ok (.getfield 11, 3) := by decide +kernel
theorem dX2_makes_12 : decode cX2_makes 12 = .ok (.iload 4, 2) := by decide +kernel
theorem dX2_makes_14 : decode cX2_makes 14 = .ok (.aaload, 1) := by decide +kernel
theorem dX2_makes_15 : decode cX2_makes 15 = .ok (.astore 6, 2) := by decide +kernel
theorem dX2_makes_17 : decode cX2_makes 17 = .ok (.iconst 0, 1) := by decide +kernel
theorem dX2_makes_18 : decode cX2_makes 18 = .ok (.istore 7, 2) := by decide +kernel
theorem dX2_makes_20 : decode cX2_makes 20 = .ok (.iload 7, 2) := by decide +kernel
theorem dX2_makes_22 : decode cX2_makes 22 = .ok (.aload_n 0, 1) := by decide +kernel
theorem dX2_makes_23 : decode cX2_makes 23 = .ok (.getfield 26, 3) := by decide +kernel
theorem dX2_makes_26 : decode cX2_makes 26 = .ok (.if_icmp .ge 33, 3) := by decide +kernel
theorem dX2_makes_29 : decode cX2_makes 29 = .ok (.aload_n 0, 1) := by decide +kernel
theorem dX2_makes_30 : decode cX2_makes 30 = .ok (.iload_n 2, 1) := by decide +kernel
theorem dX2_makes_31 : decode cX2_makes 31 = .ok (.aload 5, 2) := by decide +kernel
theorem dX2_makes_33 : decode cX2_makes 33 = .ok (.iload 7, 2) := by decide +kernel
theorem dX2_makes_35 : decode cX2_makes 35 = .ok (.iaload, 1) := by decide +kernel
theorem dX2_makes_36 : decode cX2_makes 36 = .ok (.aload 6, 2) := by decide +kernel
theorem dX2_makes_38 : decode cX2_makes 38 = .ok (.iload 7, 2) := by decide +kernel
theorem dX2_makes_40 : decode cX2_makes 40 = .ok (.iaload, 1) := by decide +kernel
theorem dX2_makes_41 : decode cX2_makes 41 = .ok (.invokevirtual 42, 3) := by decide +kernel
theorem dX2_makes_44 : decode cX2_makes 44 = .ok (.aload_n 1, 1) := by decide +kernel
theorem dX2_makes_45 : decode cX2_makes 45 = .ok (.iload 7, 2) := by decide +kernel
theorem dX2_makes_47 : decode cX2_makes 47 = .ok (.iaload, 1) := by decide +kernel
theorem dX2_makes_48 : decode cX2_makes 48 = .ok (.if_icmp .eq 5, 3) := by decide +kernel
theorem dX2_makes_51 : decode cX2_makes 51 = .ok (.iconst 0, 1) := by decide +kernel
theorem dX2_makes_52 : decode cX2_makes 52 = .ok (.ireturn, 1) := by decide +kernel
theorem dX2_makes_53 : decode cX2_makes 53 = .ok (.iinc 7 1, 3) := by decide +kernel
theorem dX2_makes_56 : decode cX2_makes 56 = .ok (.goto (-36), 3) := by decide +kernel
theorem dX2_makes_59 : decode cX2_makes 59 = .ok (.iconst 1, 1) := by decide +kernel
theorem dX2_makes_60 : decode cX2_makes 60 = .ok (.ireturn, 1) := by decide +kernel
theorem dX2_firstDifference_0 : decode cX2_firstDifference 0 = .ok (.iconst 0, 1) := by decide +kernel
theorem dX2_firstDifference_1 : decode cX2_firstDifference 1 = .ok (.istore_n 3, 1) := by decide +kernel
theorem dX2_firstDifference_2 : decode cX2_firstDifference 2 = .ok (.iload_n 3, 1) := by decide +kernel
theorem dX2_firstDifference_3 : decode cX2_firstDifference 3 = .ok (.aload_n 0, 1) := by decide +kernel
theorem dX2_firstDifference_4 : decode cX2_firstDifference 4 = .ok (.getfield 26, 3) := by decide +kernel
theorem dX2_firstDifference_7 : decode cX2_firstDifference 7 = .ok (.if_icmp .ge 20, 3) := by decide +kernel
theorem dX2_firstDifference_10 : decode cX2_firstDifference 10 = .ok (.aload_n 1, 1) := by decide +kernel
theorem dX2_firstDifference_11 : decode cX2_firstDifference 11 = .ok (.iload_n 3, 1) := by decide +kernel
theorem dX2_firstDifference_12 : decode cX2_firstDifference 12 = .ok (.iaload, 1) := by decide +kernel
theorem dX2_firstDifference_13 : decode cX2_firstDifference 13 = .ok (.aload_n 2, 1) := by decide +kernel
theorem dX2_firstDifference_14 : decode cX2_firstDifference 14 = .ok (.iload_n 3, 1) := by decide +kernel
theorem dX2_firstDifference_15 : decode cX2_firstDifference 15 = .ok (.iaload, 1) := by decide +kernel
theorem dX2_firstDifference_16 : decode cX2_firstDifference 16 = .ok (.if_icmp .eq 5, 3) := by decide +kernel
theorem dX2_firstDifference_19 : decode cX2_firstDifference 19 = .ok (.iload_n 3, 1) := by decide +kernel
theorem dX2_firstDifference_20 : decode cX2_firstDifference 20 = .ok (.ireturn, 1) := by decide +kernel
theorem dX2_firstDifference_21 : decode cX2_firstDifference 21 = .ok (.iinc 3 1, 3) := by decide +kernel
theorem dX2_firstDifference_24 : decode cX2_firstDifference 24 = .ok (.goto (-22), 3) := by decide +kernel
theorem dX2_firstDifference_27 : decode cX2_firstDifference 27 = .ok (.iconst (-1), 1) := by decide +kernel
theorem dX2_firstDifference_28 : decode cX2_firstDifference 28 = .ok (.ireturn, 1) := by decide +kernel
theorem dX2_leastBelow_0 : decode cX2_leastBelow 0 = .ok (.iconst 0, 1) := by decide +kernel
theorem dX2_leastBelow_1 : decode cX2_leastBelow 1 = .ok (.istore_n 3, 1) := by decide +kernel
theorem dX2_leastBelow_2 : decode cX2_leastBelow 2 = .ok (.iload_n 3, 1) := by decide +kernel
theorem dX2_leastBelow_3 : decode cX2_leastBelow 3 = .ok (.iload_n 1, 1) := by decide +kernel
theorem dX2_leastBelow_4 : decode cX2_leastBelow 4 = .ok (.if_icmp .ge 25, 3) := by decide +kernel
theorem dX2_leastBelow_7 : decode cX2_leastBelow 7 = .ok (.aload_n 0, 1) := by decide +kernel
theorem dX2_leastBelow_8 : decode cX2_leastBelow 8 = .ok (.aload_n 0, 1) := by decide +kernel
theorem dX2_leastBelow_9 : decode cX2_leastBelow 9 = .ok (.getfield 11, 3) := by decide +kernel
theorem dX2_leastBelow_12 : decode cX2_leastBelow 12 = .ok (.iload_n 3, 1) := by decide +kernel
theorem dX2_leastBelow_13 : decode cX2_leastBelow 13 = .ok (.aaload, 1) := by decide +kernel
theorem dX2_leastBelow_14 : decode cX2_leastBelow 14 = .ok (.aload_n 2, 1) := by decide +kernel
theorem dX2_leastBelow_15 : decode cX2_leastBelow 15 = .ok (.invokevirtual 46, 3) := by decide +kernel
theorem dX2_leastBelow_18 : decode cX2_leastBelow 18 = .ok (.ifCond .ge 5, 3) := by decide +kernel
theorem dX2_leastBelow_21 : decode cX2_leastBelow 21 = .ok (.iload_n 3, 1) := by decide +kernel
theorem dX2_leastBelow_22 : decode cX2_leastBelow 22 = .ok (.ireturn, 1) := by decide +kernel
theorem dX2_leastBelow_23 : decode cX2_leastBelow 23 = .ok (.iinc 3 1, 3) := by decide +kernel
theorem dX2_leastBelow_26 : decode cX2_leastBelow 26 = .ok (.goto (-24), 3) := by decide +kernel
theorem dX2_leastBelow_29 : decode cX2_leastBelow 29 = .ok (.iconst (-1), 1) := by decide +kernel
theorem dX2_leastBelow_30 : decode cX2_leastBelow 30 = .ok (.ireturn, 1) := by decide +kernel
theorem dX2_leastSame_0 : decode cX2_leastSame 0 = .ok (.aload_n 0, 1) := by decide +kernel
theorem dX2_leastSame_1 : decode cX2_leastSame 1 = .ok (.iload_n 1, 1) := by decide +kernel
theorem dX2_leastSame_2 : decode cX2_leastSame 2 = .ok (.aload_n 0, 1) := by decide +kernel
theorem dX2_leastSame_3 : decode cX2_leastSame 3 = .ok (.getfield 11, 3) := by decide +kernel
theorem dX2_leastSame_6 : decode cX2_leastSame 6 = .ok (.iload_n 1, 1) := by decide +kernel
theorem dX2_leastSame_7 : decode cX2_leastSame 7 = .ok (.aaload, 1) := by decide +kernel
theorem dX2_leastSame_8 : decode cX2_leastSame 8 = .ok (.invokevirtual 50, 3) := by decide +kernel
theorem dX2_leastSame_11 : decode cX2_leastSame 11 = .ok (.ireturn, 1) := by decide +kernel
theorem dX2_reckon_0 : decode cX2_reckon 0 = .ok (.iload_n 1, 1) := by decide +kernel
theorem dX2_reckon_1 : decode cX2_reckon 1 = .ok (.tableswitch 183 0 12 #[67, 76, 84, 88, 92, 96, 105, 114, 123, 136, 144, 161, 172], 67) := by decide +kernel
theorem dX2_reckon_68 : decode cX2_reckon 68 = .ok (.iload_n 2, 1) := by decide +kernel
theorem dX2_reckon_69 : decode cX2_reckon 69 = .ok (.iconst (-1), 1) := by decide +kernel
theorem dX2_reckon_70 : decode cX2_reckon 70 = .ok (.ixor, 1) := by decide +kernel
theorem dX2_reckon_71 : decode cX2_reckon 71 = .ok (.aload_n 0, 1) := by decide +kernel
theorem dX2_reckon_72 : decode cX2_reckon 72 = .ok (.getfield 20, 3) := by decide +kernel
theorem dX2_reckon_75 : decode cX2_reckon 75 = .ok (.iand, 1) := by decide +kernel
theorem dX2_reckon_76 : decode cX2_reckon 76 = .ok (.ireturn, 1) := by decide +kernel
theorem dX2_reckon_77 : decode cX2_reckon 77 = .ok (.iload_n 2, 1) := by decide +kernel
theorem dX2_reckon_78 : decode cX2_reckon 78 = .ok (.ineg, 1) := by decide +kernel
theorem dX2_reckon_79 : decode cX2_reckon 79 = .ok (.aload_n 0, 1) := by decide +kernel
theorem dX2_reckon_80 : decode cX2_reckon 80 = .ok (.getfield 20, 3) := by decide +kernel
theorem dX2_reckon_83 : decode cX2_reckon 83 = .ok (.iand, 1) := by decide +kernel
theorem dX2_reckon_84 : decode cX2_reckon 84 = .ok (.ireturn, 1) := by decide +kernel
theorem dX2_reckon_85 : decode cX2_reckon 85 = .ok (.iload_n 2, 1) := by decide +kernel
theorem dX2_reckon_86 : decode cX2_reckon 86 = .ok (.iload_n 3, 1) := by decide +kernel
theorem dX2_reckon_87 : decode cX2_reckon 87 = .ok (.iand, 1) := by decide +kernel
theorem dX2_reckon_88 : decode cX2_reckon 88 = .ok (.ireturn, 1) := by decide +kernel
theorem dX2_reckon_89 : decode cX2_reckon 89 = .ok (.iload_n 2, 1) := by decide +kernel
theorem dX2_reckon_90 : decode cX2_reckon 90 = .ok (.iload_n 3, 1) := by decide +kernel
theorem dX2_reckon_91 : decode cX2_reckon 91 = .ok (.ior, 1) := by decide +kernel
theorem dX2_reckon_92 : decode cX2_reckon 92 = .ok (.ireturn, 1) := by decide +kernel
theorem dX2_reckon_93 : decode cX2_reckon 93 = .ok (.iload_n 2, 1) := by decide +kernel
theorem dX2_reckon_94 : decode cX2_reckon 94 = .ok (.iload_n 3, 1) := by decide +kernel
theorem dX2_reckon_95 : decode cX2_reckon 95 = .ok (.ixor, 1) := by decide +kernel
theorem dX2_reckon_96 : decode cX2_reckon 96 = .ok (.ireturn, 1) := by decide +kernel
theorem dX2_reckon_97 : decode cX2_reckon 97 = .ok (.iload_n 2, 1) := by decide +kernel
theorem dX2_reckon_98 : decode cX2_reckon 98 = .ok (.iload_n 3, 1) := by decide +kernel
theorem dX2_reckon_99 : decode cX2_reckon 99 = .ok (.iadd, 1) := by decide +kernel
theorem dX2_reckon_100 : decode cX2_reckon 100 = .ok (.aload_n 0, 1) := by decide +kernel
theorem dX2_reckon_101 : decode cX2_reckon 101 = .ok (.getfield 20, 3) := by decide +kernel
theorem dX2_reckon_104 : decode cX2_reckon 104 = .ok (.iand, 1) := by decide +kernel
theorem dX2_reckon_105 : decode cX2_reckon 105 = .ok (.ireturn, 1) := by decide +kernel
theorem dX2_reckon_106 : decode cX2_reckon 106 = .ok (.iload_n 2, 1) := by decide +kernel
theorem dX2_reckon_107 : decode cX2_reckon 107 = .ok (.iload_n 3, 1) := by decide +kernel
theorem dX2_reckon_108 : decode cX2_reckon 108 = .ok (.isub, 1) := by decide +kernel
theorem dX2_reckon_109 : decode cX2_reckon 109 = .ok (.aload_n 0, 1) := by decide +kernel
theorem dX2_reckon_110 : decode cX2_reckon 110 = .ok (.getfield 20, 3) := by decide +kernel
theorem dX2_reckon_113 : decode cX2_reckon 113 = .ok (.iand, 1) := by decide +kernel
theorem dX2_reckon_114 : decode cX2_reckon 114 = .ok (.ireturn, 1) := by decide +kernel
theorem dX2_reckon_115 : decode cX2_reckon 115 = .ok (.iload_n 2, 1) := by decide +kernel
theorem dX2_reckon_116 : decode cX2_reckon 116 = .ok (.iload_n 3, 1) := by decide +kernel
theorem dX2_reckon_117 : decode cX2_reckon 117 = .ok (.imul, 1) := by decide +kernel
theorem dX2_reckon_118 : decode cX2_reckon 118 = .ok (.aload_n 0, 1) := by decide +kernel
theorem dX2_reckon_119 : decode cX2_reckon 119 = .ok (.getfield 20, 3) := by decide +kernel
theorem dX2_reckon_122 : decode cX2_reckon 122 = .ok (.iand, 1) := by decide +kernel
theorem dX2_reckon_123 : decode cX2_reckon 123 = .ok (.ireturn, 1) := by decide +kernel
theorem dX2_reckon_124 : decode cX2_reckon 124 = .ok (.iload_n 2, 1) := by decide +kernel
theorem dX2_reckon_125 : decode cX2_reckon 125 = .ok (.aload_n 0, 1) := by decide +kernel
theorem dX2_reckon_126 : decode cX2_reckon 126 = .ok (.iload_n 3, 1) := by decide +kernel
theorem dX2_reckon_127 : decode cX2_reckon 127 = .ok (.invokevirtual 54, 3) := by decide +kernel
theorem dX2_reckon_130 : decode cX2_reckon 130 = .ok (.ishl, 1) := by decide +kernel
theorem dX2_reckon_131 : decode cX2_reckon 131 = .ok (.aload_n 0, 1) := by decide +kernel
theorem dX2_reckon_132 : decode cX2_reckon 132 = .ok (.getfield 20, 3) := by decide +kernel
theorem dX2_reckon_135 : decode cX2_reckon 135 = .ok (.iand, 1) := by decide +kernel
theorem dX2_reckon_136 : decode cX2_reckon 136 = .ok (.ireturn, 1) := by decide +kernel
theorem dX2_reckon_137 : decode cX2_reckon 137 = .ok (.iload_n 2, 1) := by decide +kernel
theorem dX2_reckon_138 : decode cX2_reckon 138 = .ok (.aload_n 0, 1) := by decide +kernel
theorem dX2_reckon_139 : decode cX2_reckon 139 = .ok (.iload_n 3, 1) := by decide +kernel
theorem dX2_reckon_140 : decode cX2_reckon 140 = .ok (.invokevirtual 54, 3) := by decide +kernel
theorem dX2_reckon_143 : decode cX2_reckon 143 = .ok (.ishr, 1) := by decide +kernel
theorem dX2_reckon_144 : decode cX2_reckon 144 = .ok (.ireturn, 1) := by decide +kernel
theorem dX2_reckon_145 : decode cX2_reckon 145 = .ok (.aload_n 0, 1) := by decide +kernel
theorem dX2_reckon_146 : decode cX2_reckon 146 = .ok (.iload_n 2, 1) := by decide +kernel
theorem dX2_reckon_147 : decode cX2_reckon 147 = .ok (.invokevirtual 58, 3) := by decide +kernel
theorem dX2_reckon_150 : decode cX2_reckon 150 = .ok (.aload_n 0, 1) := by decide +kernel
theorem dX2_reckon_151 : decode cX2_reckon 151 = .ok (.iload_n 3, 1) := by decide +kernel
theorem dX2_reckon_152 : decode cX2_reckon 152 = .ok (.invokevirtual 54, 3) := by decide +kernel
theorem dX2_reckon_155 : decode cX2_reckon 155 = .ok (.ishr, 1) := by decide +kernel
theorem dX2_reckon_156 : decode cX2_reckon 156 = .ok (.aload_n 0, 1) := by decide +kernel
theorem dX2_reckon_157 : decode cX2_reckon 157 = .ok (.getfield 20, 3) := by decide +kernel
theorem dX2_reckon_160 : decode cX2_reckon 160 = .ok (.iand, 1) := by decide +kernel
theorem dX2_reckon_161 : decode cX2_reckon 161 = .ok (.ireturn, 1) := by decide +kernel
theorem dX2_reckon_162 : decode cX2_reckon 162 = .ok (.iload_n 2, 1) := by decide +kernel
theorem dX2_reckon_163 : decode cX2_reckon 163 = .ok (.iload_n 3, 1) := by decide +kernel
theorem dX2_reckon_164 : decode cX2_reckon 164 = .ok (.if_icmp .ge 7, 3) := by decide +kernel
theorem dX2_reckon_167 : decode cX2_reckon 167 = .ok (.iconst 1, 1) := by decide +kernel
theorem dX2_reckon_168 : decode cX2_reckon 168 = .ok (.goto 4, 3) := by decide +kernel
theorem dX2_reckon_171 : decode cX2_reckon 171 = .ok (.iconst 0, 1) := by decide +kernel
theorem dX2_reckon_172 : decode cX2_reckon 172 = .ok (.ireturn, 1) := by decide +kernel
theorem dX2_reckon_173 : decode cX2_reckon 173 = .ok (.iload_n 2, 1) := by decide +kernel
theorem dX2_reckon_174 : decode cX2_reckon 174 = .ok (.iload_n 3, 1) := by decide +kernel
theorem dX2_reckon_175 : decode cX2_reckon 175 = .ok (.if_icmp .ne 7, 3) := by decide +kernel
theorem dX2_reckon_178 : decode cX2_reckon 178 = .ok (.iconst 1, 1) := by decide +kernel
theorem dX2_reckon_179 : decode cX2_reckon 179 = .ok (.goto 4, 3) := by decide +kernel
theorem dX2_reckon_182 : decode cX2_reckon 182 = .ok (.iconst 0, 1) := by decide +kernel
theorem dX2_reckon_183 : decode cX2_reckon 183 = .ok (.ireturn, 1) := by decide +kernel
theorem dX2_reckon_184 : decode cX2_reckon 184 = .ok (.iconst 0, 1) := by decide +kernel
theorem dX2_reckon_185 : decode cX2_reckon 185 = .ok (.ireturn, 1) := by decide +kernel
theorem dX2_distance_0 : decode cX2_distance 0 = .ok (.aload_n 0, 1) := by decide +kernel
theorem dX2_distance_1 : decode cX2_distance 1 = .ok (.getfield 16, 3) := by decide +kernel
theorem dX2_distance_4 : decode cX2_distance 4 = .ok (.iconst 1, 1) := by decide +kernel
theorem dX2_distance_5 : decode cX2_distance 5 = .ok (.if_icmp .ge 7, 3) := by decide +kernel
theorem dX2_distance_8 : decode cX2_distance 8 = .ok (.iconst 0, 1) := by decide +kernel
theorem dX2_distance_9 : decode cX2_distance 9 = .ok (.goto 9, 3) := by decide +kernel
theorem dX2_distance_12 : decode cX2_distance 12 = .ok (.iload_n 1, 1) := by decide +kernel
theorem dX2_distance_13 : decode cX2_distance 13 = .ok (.aload_n 0, 1) := by decide +kernel
theorem dX2_distance_14 : decode cX2_distance 14 = .ok (.getfield 16, 3) := by decide +kernel
theorem dX2_distance_17 : decode cX2_distance 17 = .ok (.irem, 1) := by decide +kernel
theorem dX2_distance_18 : decode cX2_distance 18 = .ok (.ireturn, 1) := by decide +kernel
theorem dX2_signed_0 : decode cX2_signed 0 = .ok (.iload_n 1, 1) := by decide +kernel
theorem dX2_signed_1 : decode cX2_signed 1 = .ok (.aload_n 0, 1) := by decide +kernel
theorem dX2_signed_2 : decode cX2_signed 2 = .ok (.getfield 16, 3) := by decide +kernel
theorem dX2_signed_5 : decode cX2_signed 5 = .ok (.iconst 1, 1) := by decide +kernel
theorem dX2_signed_6 : decode cX2_signed 6 = .ok (.isub, 1) := by decide +kernel
theorem dX2_signed_7 : decode cX2_signed 7 = .ok (.ishr, 1) := by decide +kernel
theorem dX2_signed_8 : decode cX2_signed 8 = .ok (.ifCond .ne 7, 3) := by decide +kernel
theorem dX2_signed_11 : decode cX2_signed 11 = .ok (.iload_n 1, 1) := by decide +kernel
theorem dX2_signed_12 : decode cX2_signed 12 = .ok (.goto 11, 3) := by decide +kernel
theorem dX2_signed_15 : decode cX2_signed 15 = .ok (.iload_n 1, 1) := by decide +kernel
theorem dX2_signed_16 : decode cX2_signed 16 = .ok (.aload_n 0, 1) := by decide +kernel
theorem dX2_signed_17 : decode cX2_signed 17 = .ok (.getfield 20, 3) := by decide +kernel
theorem dX2_signed_20 : decode cX2_signed 20 = .ok (.iconst (-1), 1) := by decide +kernel
theorem dX2_signed_21 : decode cX2_signed 21 = .ok (.ixor, 1) := by decide +kernel
theorem dX2_signed_22 : decode cX2_signed 22 = .ok (.ior, 1) := by decide +kernel
theorem dX2_signed_23 : decode cX2_signed 23 = .ok (.ireturn, 1) := by decide +kernel
theorem dX3_init_0 : decode cX3_init 0 = .ok (.aload_n 0, 1) := by decide +kernel
theorem dX3_init_1 : decode cX3_init 1 = .ok (.invokespecial 3, 3) := by decide +kernel
theorem dX3_init_4 : decode cX3_init 4 = .ok (.aload_n 0, 1) := by decide +kernel
theorem dX3_init_5 : decode cX3_init 5 = .ok (.bipush 13, 2) := by decide +kernel
theorem dX3_init_7 : decode cX3_init 7 = .ok (.newarray .int, 2) := by decide +kernel
theorem dX3_init_9 : decode cX3_init 9 = .ok (.putfield 9, 3) := by decide +kernel
theorem dX3_init_12 : decode cX3_init 12 = .ok (.aload_n 0, 1) := by decide +kernel
theorem dX3_init_13 : decode cX3_init 13 = .ok (.sipush 256, 3) := by decide +kernel
theorem dX3_init_16 : decode cX3_init 16 = .ok (.newarray .int, 2) := by decide +kernel
theorem dX3_init_18 : decode cX3_init 18 = .ok (.putfield 13, 3) := by decide +kernel
theorem dX3_init_21 : decode cX3_init 21 = .ok (.aload_n 0, 1) := by decide +kernel
theorem dX3_init_22 : decode cX3_init 22 = .ok (.new 16, 3) := by decide +kernel
theorem dX3_init_25 : decode cX3_init 25 = .ok (.dup, 1) := by decide +kernel
theorem dX3_init_26 : decode cX3_init 26 = .ok (.invokespecial 18, 3) := by decide +kernel
theorem dX3_init_29 : decode cX3_init 29 = .ok (.putfield 19, 3) := by decide +kernel
theorem dX3_init_32 : decode cX3_init 32 = .ok (.aload_n 0, 1) := by decide +kernel
theorem dX3_init_33 : decode cX3_init 33 = .ok (.new 23, 3) := by decide +kernel
theorem dX3_init_36 : decode cX3_init 36 = .ok (.dup, 1) := by decide +kernel
theorem dX3_init_37 : decode cX3_init 37 = .ok (.invokespecial 25, 3) := by decide +kernel
theorem dX3_init_40 : decode cX3_init 40 = .ok (.putfield 26, 3) := by decide +kernel
theorem dX3_init_43 : decode cX3_init 43 = .ok (.aload_n 0, 1) := by decide +kernel
theorem dX3_init_44 : decode cX3_init 44 = .ok (.new 23, 3) := by decide +kernel
theorem dX3_init_47 : decode cX3_init 47 = .ok (.dup, 1) := by decide +kernel
theorem dX3_init_48 : decode cX3_init 48 = .ok (.invokespecial 25, 3) := by decide +kernel
theorem dX3_init_51 : decode cX3_init 51 = .ok (.putfield 30, 3) := by decide +kernel
theorem dX3_init_54 : decode cX3_init 54 = .ok (.aload_n 0, 1) := by decide +kernel
theorem dX3_init_55 : decode cX3_init 55 = .ok (.bipush 18, 2) := by decide +kernel
theorem dX3_init_57 : decode cX3_init 57 = .ok (.newarray .boolean, 2) := by decide +kernel
theorem dX3_init_59 : decode cX3_init 59 = .ok (.putfield 33, 3) := by decide +kernel
theorem dX3_init_62 : decode cX3_init 62 = .ok (.aload_n 0, 1) := by decide +kernel
theorem dX3_init_63 : decode cX3_init 63 = .ok (.new 37, 3) := by decide +kernel
theorem dX3_init_66 : decode cX3_init 66 = .ok (.dup, 1) := by decide +kernel
theorem dX3_init_67 : decode cX3_init 67 = .ok (.invokespecial 39, 3) := by decide +kernel
theorem dX3_init_70 : decode cX3_init 70 = .ok (.putfield 40, 3) := by decide +kernel
theorem dX3_init_73 : decode cX3_init 73 = .ok (.iconst 0, 1) := by decide +kernel
theorem dX3_init_74 : decode cX3_init 74 = .ok (.istore_n 1, 1) := by decide +kernel
theorem dX3_init_75 : decode cX3_init 75 = .ok (.iload_n 1, 1) := by decide +kernel
theorem dX3_init_76 : decode cX3_init 76 = .ok (.bipush 13, 2) := by decide +kernel
theorem dX3_init_78 : decode cX3_init 78 = .ok (.if_icmp .ge 16, 3) := by decide +kernel
theorem dX3_init_81 : decode cX3_init 81 = .ok (.aload_n 0, 1) := by decide +kernel
theorem dX3_init_82 : decode cX3_init 82 = .ok (.getfield 9, 3) := by decide +kernel
theorem dX3_init_85 : decode cX3_init 85 = .ok (.iload_n 1, 1) := by decide +kernel
theorem dX3_init_86 : decode cX3_init 86 = .ok (.iconst 1, 1) := by decide +kernel
theorem dX3_init_87 : decode cX3_init 87 = .ok (.iastore, 1) := by decide +kernel
theorem dX3_init_88 : decode cX3_init 88 = .ok (.iinc 1 1, 3) := by decide +kernel
theorem dX3_init_91 : decode cX3_init 91 = .ok (.goto (-16), 3) := by decide +kernel
theorem dX3_init_94 : decode cX3_init 94 = .ok (.aload_n 0, 1) := by decide +kernel
theorem dX3_init_95 : decode cX3_init 95 = .ok (.getfield 19, 3) := by decide +kernel
theorem dX3_init_98 : decode cX3_init 98 = .ok (.iconst 4, 1) := by decide +kernel
theorem dX3_init_99 : decode cX3_init 99 = .ok (.iconst 1, 1) := by decide +kernel
theorem dX3_init_100 : decode cX3_init 100 = .ok (.invokevirtual 44, 3) := by decide +kernel
theorem dX3_init_103 : decode cX3_init 103 = .ok (.return_, 1) := by decide +kernel
theorem dX3_words_0 : decode cX3_words 0 = .ok (.iload_n 1, 1) := by decide +kernel
theorem dX3_words_1 : decode cX3_words 1 = .ok (.iconst 1, 1) := by decide +kernel
theorem dX3_words_2 : decode cX3_words 2 = .ok (.if_icmp .lt 18, 3) := by decide +kernel
theorem dX3_words_5 : decode cX3_words 5 = .ok (.iload_n 1, 1) := by decide +kernel
theorem dX3_words_6 : decode cX3_words 6 = .ok (.iconst 4, 1) := by decide +kernel
theorem dX3_words_7 : decode cX3_words 7 = .ok (.if_icmp .gt 13, 3) := by decide +kernel
theorem dX3_words_10 : decode cX3_words 10 = .ok (.iload_n 2, 1) := by decide +kernel
theorem dX3_words_11 : decode cX3_words 11 = .ok (.iconst 1, 1) := by decide +kernel
theorem dX3_words_12 : decode cX3_words 12 = .ok (.if_icmp .lt 8, 3) := by decide +kernel
theorem dX3_words_15 : decode cX3_words 15 = .ok (.iload_n 2, 1) := by decide +kernel
theorem dX3_words_16 : decode cX3_words 16 = .ok (.iconst 2, 1) := by decide +kernel
theorem dX3_words_17 : decode cX3_words 17 = .ok (.if_icmp .le 6, 3) := by decide +kernel
theorem dX3_words_20 : decode cX3_words 20 = .ok (.bipush (-2), 2) := by decide +kernel
theorem dX3_words_22 : decode cX3_words 22 = .ok (.ireturn, 1) := by decide +kernel
theorem dX3_words_23 : decode cX3_words 23 = .ok (.aload_n 0, 1) := by decide +kernel
theorem dX3_words_24 : decode cX3_words 24 = .ok (.getfield 19, 3) := by decide +kernel
theorem dX3_words_27 : decode cX3_words 27 = .ok (.iload_n 1, 1) := by decide +kernel
theorem dX3_words_28 : decode cX3_words 28 = .ok (.iload_n 2, 1) := by decide +kernel
theorem dX3_words_29 : decode cX3_words 29 = .ok (.invokevirtual 44, 3) := by decide +kernel
theorem dX3_words_32 : decode cX3_words 32 = .ok (.aload_n 0, 1) := by decide +kernel
theorem dX3_words_33 : decode cX3_words 33 = .ok (.getfield 26, 3) := by decide +kernel
theorem dX3_words_36 : decode cX3_words 36 = .ok (.iconst 0, 1) := by decide +kernel
theorem dX3_words_37 : decode cX3_words 37 = .ok (.invokevirtual 48, 3) := by decide +kernel
theorem dX3_words_40 : decode cX3_words 40 = .ok (.iconst 0, 1) := by decide +kernel
theorem dX3_words_41 : decode cX3_words 41 = .ok (.istore_n 3, 1) := by decide +kernel
theorem dX3_words_42 : decode cX3_words 42 = .ok (.iload_n 3, 1) := by decide +kernel
theorem dX3_words_43 : decode cX3_words 43 = .ok (.sipush 256, 3) := by decide +kernel
theorem dX3_words_46 : decode cX3_words 46 = .ok (.if_icmp .ge 16, 3) := by decide +kernel
theorem dX3_words_49 : decode cX3_words 49 = .ok (.aload_n 0, 1) := by decide +kernel
theorem dX3_words_50 : decode cX3_words 50 = .ok (.getfield 13, 3) := by decide +kernel
theorem dX3_words_53 : decode cX3_words 53 = .ok (.iload_n 3, 1) := by decide +kernel
theorem dX3_words_54 : decode cX3_words 54 = .ok (.iconst 0, 1) := by decide +kernel
theorem dX3_words_55 : decode cX3_words 55 = .ok (.iastore, 1) := by decide +kernel
theorem dX3_words_56 : decode cX3_words 56 = .ok (.iinc 3 1, 3) := by decide +kernel
theorem dX3_words_59 : decode cX3_words 59 = .ok (.goto (-17), 3) := by decide +kernel
theorem dX3_words_62 : decode cX3_words 62 = .ok (.aload_n 0, 1) := by decide +kernel
theorem dX3_words_63 : decode cX3_words 63 = .ok (.iconst 0, 1) := by decide +kernel
theorem dX3_words_64 : decode cX3_words 64 = .ok (.putfield 52, 3) := by decide +kernel
theorem dX3_words_67 : decode cX3_words 67 = .ok (.aload_n 0, 1) := by decide +kernel
theorem dX3_words_68 : decode cX3_words 68 = .ok (.getfield 19, 3) := by decide +kernel
theorem dX3_words_71 : decode cX3_words 71 = .ok (.getfield 56, 3) := by decide +kernel
theorem dX3_words_74 : decode cX3_words 74 = .ok (.ireturn, 1) := by decide +kernel
theorem dX3_constant_0 : decode cX3_constant 0 = .ok (.aload_n 0, 1) := by decide +kernel
theorem dX3_constant_1 : decode cX3_constant 1 = .ok (.getfield 19, 3) := by decide +kernel
theorem dX3_constant_4 : decode cX3_constant 4 = .ok (.iload_n 1, 1) := by decide +kernel
theorem dX3_constant_5 : decode cX3_constant 5 = .ok (.invokevirtual 60, 3) := by decide +kernel
theorem dX3_constant_8 : decode cX3_constant 8 = .ok (.ifCond .ne 6, 3) := by decide +kernel
theorem dX3_constant_11 : decode cX3_constant 11 = .ok (.bipush (-2), 2) := by decide +kernel
theorem dX3_constant_13 : decode cX3_constant 13 = .ok (.ireturn, 1) := by decide +kernel
theorem dX3_constant_14 : decode cX3_constant 14 = .ok (.aload_n 0, 1) := by decide +kernel
theorem dX3_constant_15 : decode cX3_constant 15 = .ok (.getfield 26, 3) := by decide +kernel
