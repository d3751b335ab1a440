theorem dX3_constant_18 : decode cX3_constant 18 = .ok (.getfield 64, 3) := by decide +kernel
theorem dX3_constant_21 : decode cX3_constant 21 = .ok (.ifCond .le 6, 3) := by decide +kernel
theorem dX3_constant_24 : decode cX3_constant 24 = .ok (.bipush (-3), 2) := by decide +kernel
theorem dX3_constant_26 : decode cX3_constant 26 = .ok (.ireturn, 1) := by decide +kernel
theorem dX3_constant_27 : decode cX3_constant 27 = .ok (.aload_n 0, 1) := by decide +kernel
theorem dX3_constant_28 : decode cX3_constant 28 = .ok (.getfield 19, 3) := by decide +kernel
theorem dX3_constant_31 : decode cX3_constant 31 = .ok (.getfield 67, 3) := by decide +kernel
theorem dX3_constant_34 : decode cX3_constant 34 = .ok (.iconst 4, 1) := by decide +kernel
theorem dX3_constant_35 : decode cX3_constant 35 = .ok (.if_icmp .lt 6, 3) := by decide +kernel
theorem dX3_constant_38 : decode cX3_constant 38 = .ok (.bipush (-4), 2) := by decide +kernel
theorem dX3_constant_40 : decode cX3_constant 40 = .ok (.ireturn, 1) := by decide +kernel
theorem dX3_constant_41 : decode cX3_constant 41 = .ok (.aload_n 0, 1) := by decide +kernel
theorem dX3_constant_42 : decode cX3_constant 42 = .ok (.getfield 19, 3) := by decide +kernel
theorem dX3_constant_45 : decode cX3_constant 45 = .ok (.iload_n 1, 1) := by decide +kernel
theorem dX3_constant_46 : decode cX3_constant 46 = .ok (.invokevirtual 70, 3) := by decide +kernel
theorem dX3_constant_49 : decode cX3_constant 49 = .ok (.aload_n 0, 1) := by decide +kernel
theorem dX3_constant_50 : decode cX3_constant 50 = .ok (.iconst 0, 1) := by decide +kernel
theorem dX3_constant_51 : decode cX3_constant 51 = .ok (.putfield 52, 3) := by decide +kernel
theorem dX3_constant_54 : decode cX3_constant 54 = .ok (.aload_n 0, 1) := by decide +kernel
theorem dX3_constant_55 : decode cX3_constant 55 = .ok (.getfield 19, 3) := by decide +kernel
theorem dX3_constant_58 : decode cX3_constant 58 = .ok (.invokevirtual 73, 3) := by decide +kernel
theorem dX3_constant_61 : decode cX3_constant 61 = .ok (.iconst 1, 1) := by decide +kernel
theorem dX3_constant_62 : decode cX3_constant 62 = .ok (.isub, 1) := by decide +kernel
theorem dX3_constant_63 : decode cX3_constant 63 = .ok (.ireturn, 1) := by decide +kernel
theorem dX3_cost_0 : decode cX3_cost 0 = .ok (.iload_n 1, 1) := by decide +kernel
theorem dX3_cost_1 : decode cX3_cost 1 = .ok (.invokestatic 77, 3) := by decide +kernel
theorem dX3_cost_4 : decode cX3_cost 4 = .ok (.ifCond .ne 5, 3) := by decide +kernel
theorem dX3_cost_7 : decode cX3_cost 7 = .ok (.iconst (-1), 1) := by decide +kernel
theorem dX3_cost_8 : decode cX3_cost 8 = .ok (.ireturn, 1) := by decide +kernel
theorem dX3_cost_9 : decode cX3_cost 9 = .ok (.iload_n 2, 1) := by decide +kernel
theorem dX3_cost_10 : decode cX3_cost 10 = .ok (.ifCond .lt 9, 3) := by decide +kernel
theorem dX3_cost_13 : decode cX3_cost 13 = .ok (.iload_n 2, 1) := by decide +kernel
theorem dX3_cost_14 : decode cX3_cost 14 = .ok (.bipush 9, 2) := by decide +kernel
theorem dX3_cost_16 : decode cX3_cost 16 = .ok (.if_icmp .le 6, 3) := by decide +kernel
theorem dX3_cost_19 : decode cX3_cost 19 = .ok (.bipush (-2), 2) := by decide +kernel
theorem dX3_cost_21 : decode cX3_cost 21 = .ok (.ireturn, 1) := by decide +kernel
theorem dX3_cost_22 : decode cX3_cost 22 = .ok (.aload_n 0, 1) := by decide +kernel
theorem dX3_cost_23 : decode cX3_cost 23 = .ok (.getfield 9, 3) := by decide +kernel
theorem dX3_cost_26 : decode cX3_cost 26 = .ok (.iload_n 1, 1) := by decide +kernel
theorem dX3_cost_27 : decode cX3_cost 27 = .ok (.iaload, 1) := by decide +kernel
theorem dX3_cost_28 : decode cX3_cost 28 = .ok (.istore_n 3, 1) := by decide +kernel
theorem dX3_cost_29 : decode cX3_cost 29 = .ok (.aload_n 0, 1) := by decide +kernel
theorem dX3_cost_30 : decode cX3_cost 30 = .ok (.getfield 9, 3) := by decide +kernel
theorem dX3_cost_33 : decode cX3_cost 33 = .ok (.iload_n 1, 1) := by decide +kernel
theorem dX3_cost_34 : decode cX3_cost 34 = .ok (.iload_n 2, 1) := by decide +kernel
theorem dX3_cost_35 : decode cX3_cost 35 = .ok (.iastore, 1) := by decide +kernel
theorem dX3_cost_36 : decode cX3_cost 36 = .ok (.iload_n 3, 1) := by decide +kernel
theorem dX3_cost_37 : decode cX3_cost 37 = .ok (.ireturn, 1) := by decide +kernel
theorem dX3_target_0 : decode cX3_target 0 = .ok (.aload_n 0, 1) := by decide +kernel
theorem dX3_target_1 : decode cX3_target 1 = .ok (.getfield 19, 3) := by decide +kernel
theorem dX3_target_4 : decode cX3_target 4 = .ok (.iload_n 1, 1) := by decide +kernel
theorem dX3_target_5 : decode cX3_target 5 = .ok (.invokevirtual 80, 3) := by decide +kernel
theorem dX3_target_8 : decode cX3_target 8 = .ok (.ifCond .ne 5, 3) := by decide +kernel
theorem dX3_target_11 : decode cX3_target 11 = .ok (.iconst (-1), 1) := by decide +kernel
theorem dX3_target_12 : decode cX3_target 12 = .ok (.ireturn, 1) := by decide +kernel
theorem dX3_target_13 : decode cX3_target 13 = .ok (.aload_n 0, 1) := by decide +kernel
theorem dX3_target_14 : decode cX3_target 14 = .ok (.getfield 19, 3) := by decide +kernel
theorem dX3_target_17 : decode cX3_target 17 = .ok (.iload_n 2, 1) := by decide +kernel
theorem dX3_target_18 : decode cX3_target 18 = .ok (.invokevirtual 60, 3) := by decide +kernel
theorem dX3_target_21 : decode cX3_target 21 = .ok (.ifCond .ne 6, 3) := by decide +kernel
theorem dX3_target_24 : decode cX3_target 24 = .ok (.bipush (-2), 2) := by decide +kernel
theorem dX3_target_26 : decode cX3_target 26 = .ok (.ireturn, 1) := by decide +kernel
theorem dX3_target_27 : decode cX3_target 27 = .ok (.aload_n 0, 1) := by decide +kernel
theorem dX3_target_28 : decode cX3_target 28 = .ok (.getfield 13, 3) := by decide +kernel
theorem dX3_target_31 : decode cX3_target 31 = .ok (.iload_n 1, 1) := by decide +kernel
theorem dX3_target_32 : decode cX3_target 32 = .ok (.iaload, 1) := by decide +kernel
theorem dX3_target_33 : decode cX3_target 33 = .ok (.istore_n 3, 1) := by decide +kernel
theorem dX3_target_34 : decode cX3_target 34 = .ok (.aload_n 0, 1) := by decide +kernel
theorem dX3_target_35 : decode cX3_target 35 = .ok (.getfield 13, 3) := by decide +kernel
theorem dX3_target_38 : decode cX3_target 38 = .ok (.iload_n 1, 1) := by decide +kernel
theorem dX3_target_39 : decode cX3_target 39 = .ok (.iload_n 2, 1) := by decide +kernel
theorem dX3_target_40 : decode cX3_target 40 = .ok (.iastore, 1) := by decide +kernel
theorem dX3_target_41 : decode cX3_target 41 = .ok (.iload_n 3, 1) := by decide +kernel
theorem dX3_target_42 : decode cX3_target 42 = .ok (.ireturn, 1) := by decide +kernel
theorem dX3_aim_0 : decode cX3_aim 0 = .ok (.aload_n 0, 1) := by decide +kernel
theorem dX3_aim_1 : decode cX3_aim 1 = .ok (.getfield 19, 3) := by decide +kernel
theorem dX3_aim_4 : decode cX3_aim 4 = .ok (.getfield 83, 3) := by decide +kernel
theorem dX3_aim_7 : decode cX3_aim 7 = .ok (.aload_n 0, 1) := by decide +kernel
theorem dX3_aim_8 : decode cX3_aim 8 = .ok (.getfield 26, 3) := by decide +kernel
theorem dX3_aim_11 : decode cX3_aim 11 = .ok (.getfield 87, 3) := by decide +kernel
theorem dX3_aim_14 : decode cX3_aim 14 = .ok (.aaload, 1) := by decide +kernel
theorem dX3_aim_15 : decode cX3_aim 15 = .ok (.astore_n 1, 1) := by decide +kernel
theorem dX3_aim_16 : decode cX3_aim 16 = .ok (.iconst 0, 1) := by decide +kernel
theorem dX3_aim_17 : decode cX3_aim 17 = .ok (.istore_n 2, 1) := by decide +kernel
theorem dX3_aim_18 : decode cX3_aim 18 = .ok (.iconst 0, 1) := by decide +kernel
theorem dX3_aim_19 : decode cX3_aim 19 = .ok (.istore_n 3, 1) := by decide +kernel
theorem dX3_aim_20 : decode cX3_aim 20 = .ok (.iload_n 3, 1) := by decide +kernel
theorem dX3_aim_21 : decode cX3_aim 21 = .ok (.aload_n 0, 1) := by decide +kernel
theorem dX3_aim_22 : decode cX3_aim 22 = .ok (.getfield 19, 3) := by decide +kernel
theorem dX3_aim_25 : decode cX3_aim 25 = .ok (.getfield 56, 3) := by decide +kernel
theorem dX3_aim_28 : decode cX3_aim 28 = .ok (.if_icmp .ge 33, 3) := by decide +kernel
theorem dX3_aim_31 : decode cX3_aim 31 = .ok (.aload_n 0, 1) := by decide +kernel
theorem dX3_aim_32 : decode cX3_aim 32 = .ok (.getfield 13, 3) := by decide +kernel
theorem dX3_aim_35 : decode cX3_aim 35 = .ok (.iload_n 3, 1) := by decide +kernel
theorem dX3_aim_36 : decode cX3_aim 36 = .ok (.iaload, 1) := by decide +kernel
theorem dX3_aim_37 : decode cX3_aim 37 = .ok (.aload_n 1, 1) := by decide +kernel
theorem dX3_aim_38 : decode cX3_aim 38 = .ok (.iload_n 3, 1) := by decide +kernel
theorem dX3_aim_39 : decode cX3_aim 39 = .ok (.iaload, 1) := by decide +kernel
theorem dX3_aim_40 : decode cX3_aim 40 = .ok (.if_icmp .eq 15, 3) := by decide +kernel
theorem dX3_aim_43 : decode cX3_aim 43 = .ok (.aload_n 0, 1) := by decide +kernel
theorem dX3_aim_44 : decode cX3_aim 44 = .ok (.getfield 13, 3) := by decide +kernel
theorem dX3_aim_47 : decode cX3_aim 47 = .ok (.iload_n 3, 1) := by decide +kernel
theorem dX3_aim_48 : decode cX3_aim 48 = .ok (.aload_n 1, 1) := by decide +kernel
theorem dX3_aim_49 : decode cX3_aim 49 = .ok (.iload_n 3, 1) := by decide +kernel
theorem dX3_aim_50 : decode cX3_aim 50 = .ok (.iaload, 1) := by decide +kernel
theorem dX3_aim_51 : decode cX3_aim 51 = .ok (.iastore, 1) := by decide +kernel
theorem dX3_aim_52 : decode cX3_aim 52 = .ok (.iinc 2 1, 3) := by decide +kernel
theorem dX3_aim_55 : decode cX3_aim 55 = .ok (.iinc 3 1, 3) := by decide +kernel
theorem dX3_aim_58 : decode cX3_aim 58 = .ok (.goto (-38), 3) := by decide +kernel
theorem dX3_aim_61 : decode cX3_aim 61 = .ok (.iload_n 2, 1) := by decide +kernel
theorem dX3_aim_62 : decode cX3_aim 62 = .ok (.ireturn, 1) := by decide +kernel
theorem dX3_add_0 : decode cX3_add 0 = .ok (.iload_n 1, 1) := by decide +kernel
theorem dX3_add_1 : decode cX3_add 1 = .ok (.invokestatic 77, 3) := by decide +kernel
theorem dX3_add_4 : decode cX3_add 4 = .ok (.ifCond .eq 19, 3) := by decide +kernel
theorem dX3_add_7 : decode cX3_add 7 = .ok (.aload_n 0, 1) := by decide +kernel
theorem dX3_add_8 : decode cX3_add 8 = .ok (.iload_n 2, 1) := by decide +kernel
theorem dX3_add_9 : decode cX3_add 9 = .ok (.invokevirtual 90, 3) := by decide +kernel
theorem dX3_add_12 : decode cX3_add 12 = .ok (.ifCond .eq 11, 3) := by decide +kernel
theorem dX3_add_15 : decode cX3_add 15 = .ok (.aload_n 0, 1) := by decide +kernel
theorem dX3_add_16 : decode cX3_add 16 = .ok (.iload_n 3, 1) := by decide +kernel
theorem dX3_add_17 : decode cX3_add 17 = .ok (.invokevirtual 90, 3) := by decide +kernel
theorem dX3_add_20 : decode cX3_add 20 = .ok (.ifCond .ne 5, 3) := by decide +kernel
theorem dX3_add_23 : decode cX3_add 23 = .ok (.iconst (-1), 1) := by decide +kernel
theorem dX3_add_24 : decode cX3_add 24 = .ok (.ireturn, 1) := by decide +kernel
theorem dX3_add_25 : decode cX3_add 25 = .ok (.aload_n 0, 1) := by decide +kernel
theorem dX3_add_26 : decode cX3_add 26 = .ok (.getfield 26, 3) := by decide +kernel
theorem dX3_add_29 : decode cX3_add 29 = .ok (.getfield 64, 3) := by decide +kernel
theorem dX3_add_32 : decode cX3_add 32 = .ok (.bipush 12, 2) := by decide +kernel
theorem dX3_add_34 : decode cX3_add 34 = .ok (.if_icmp .lt 6, 3) := by decide +kernel
theorem dX3_add_37 : decode cX3_add 37 = .ok (.bipush (-4), 2) := by decide +kernel
theorem dX3_add_39 : decode cX3_add 39 = .ok (.ireturn, 1) := by decide +kernel
theorem dX3_add_40 : decode cX3_add 40 = .ok (.aload_n 0, 1) := by decide +kernel
theorem dX3_add_41 : decode cX3_add 41 = .ok (.invokevirtual 93, 3) := by decide +kernel
theorem dX3_add_44 : decode cX3_add 44 = .ok (.istore 4, 2) := by decide +kernel
theorem dX3_add_46 : decode cX3_add 46 = .ok (.aload_n 0, 1) := by decide +kernel
theorem dX3_add_47 : decode cX3_add 47 = .ok (.getfield 26, 3) := by decide +kernel
theorem dX3_add_50 : decode cX3_add 50 = .ok (.aload_n 0, 1) := by decide +kernel
theorem dX3_add_51 : decode cX3_add 51 = .ok (.getfield 26, 3) := by decide +kernel
theorem dX3_add_54 : decode cX3_add 54 = .ok (.getfield 64, 3) := by decide +kernel
theorem dX3_add_57 : decode cX3_add 57 = .ok (.iload_n 1, 1) := by decide +kernel
theorem dX3_add_58 : decode cX3_add 58 = .ok (.iload_n 2, 1) := by decide +kernel
theorem dX3_add_59 : decode cX3_add 59 = .ok (.iload_n 1, 1) := by decide +kernel
theorem dX3_add_60 : decode cX3_add 60 = .ok (.invokestatic 96, 3) := by decide +kernel
theorem dX3_add_63 : decode cX3_add 63 = .ok (.ifCond .eq 7, 3) := by decide +kernel
theorem dX3_add_66 : decode cX3_add 66 = .ok (.iconst 0, 1) := by decide +kernel
theorem dX3_add_67 : decode cX3_add 67 = .ok (.goto 4, 3) := by decide +kernel
theorem dX3_add_70 : decode cX3_add 70 = .ok (.iload_n 3, 1) := by decide +kernel
theorem dX3_add_71 : decode cX3_add 71 = .ok (.invokevirtual 99, 3) := by decide +kernel
theorem dX3_add_74 : decode cX3_add 74 = .ok (.aload_n 0, 1) := by decide +kernel
theorem dX3_add_75 : decode cX3_add 75 = .ok (.getfield 26, 3) := by decide +kernel
theorem dX3_add_78 : decode cX3_add 78 = .ok (.dup, 1) := by decide +kernel
theorem dX3_add_79 : decode cX3_add 79 = .ok (.getfield 64, 3) := by decide +kernel
theorem dX3_add_82 : decode cX3_add 82 = .ok (.iconst 1, 1) := by decide +kernel
theorem dX3_add_83 : decode cX3_add 83 = .ok (.iadd, 1) := by decide +kernel
theorem dX3_add_84 : decode cX3_add 84 = .ok (.putfield 64, 3) := by decide +kernel
theorem dX3_add_87 : decode cX3_add 87 = .ok (.aload_n 0, 1) := by decide +kernel
theorem dX3_add_88 : decode cX3_add 88 = .ok (.getfield 26, 3) := by decide +kernel
theorem dX3_add_91 : decode cX3_add 91 = .ok (.iload 4, 2) := by decide +kernel
theorem dX3_add_93 : decode cX3_add 93 = .ok (.putfield 87, 3) := by decide +kernel
theorem dX3_add_96 : decode cX3_add 96 = .ok (.aload_n 0, 1) := by decide +kernel
theorem dX3_add_97 : decode cX3_add 97 = .ok (.aload_n 0, 1) := by decide +kernel
theorem dX3_add_98 : decode cX3_add 98 = .ok (.getfield 26, 3) := by decide +kernel
theorem dX3_add_101 : decode cX3_add 101 = .ok (.getfield 64, 3) := by decide +kernel
theorem dX3_add_104 : decode cX3_add 104 = .ok (.iconst 1, 1) := by decide +kernel
theorem dX3_add_105 : decode cX3_add 105 = .ok (.isub, 1) := by decide +kernel
theorem dX3_add_106 : decode cX3_add 106 = .ok (.invokevirtual 103, 3) := by decide +kernel
theorem dX3_add_109 : decode cX3_add 109 = .ok (.iload 4, 2) := by decide +kernel
theorem dX3_add_111 : decode cX3_add 111 = .ok (.ireturn, 1) := by decide +kernel
theorem dX3_drop_0 : decode cX3_drop 0 = .ok (.aload_n 0, 1) := by decide +kernel
theorem dX3_drop_1 : decode cX3_drop 1 = .ok (.getfield 26, 3) := by decide +kernel
theorem dX3_drop_4 : decode cX3_drop 4 = .ok (.getfield 64, 3) := by decide +kernel
theorem dX3_drop_7 : decode cX3_drop 7 = .ok (.iconst 1, 1) := by decide +kernel
theorem dX3_drop_8 : decode cX3_drop 8 = .ok (.if_icmp .ge 6, 3) := by decide +kernel
theorem dX3_drop_11 : decode cX3_drop 11 = .ok (.bipush (-3), 2) := by decide +kernel
theorem dX3_drop_13 : decode cX3_drop 13 = .ok (.ireturn, 1) := by decide +kernel
theorem dX3_drop_14 : decode cX3_drop 14 = .ok (.aload_n 0, 1) := by decide +kernel
theorem dX3_drop_15 : decode cX3_drop 15 = .ok (.getfield 26, 3) := by decide +kernel
theorem dX3_drop_18 : decode cX3_drop 18 = .ok (.dup, 1) := by decide +kernel
theorem dX3_drop_19 : decode cX3_drop 19 = .ok (.getfield 64, 3) := by decide +kernel
theorem dX3_drop_22 : decode cX3_drop 22 = .ok (.iconst 1, 1) := by decide +kernel
theorem dX3_drop_23 : decode cX3_drop 23 = .ok (.isub, 1) := by decide +kernel
theorem dX3_drop_24 : decode cX3_drop 24 = .ok (.putfield 64, 3) := by decide +kernel
theorem dX3_drop_27 : decode cX3_drop 27 = .ok (.aload_n 0, 1) := by decide +kernel
theorem dX3_drop_28 : decode cX3_drop 28 = .ok (.getfield 26, 3) := by decide +kernel
theorem dX3_drop_31 : decode cX3_drop 31 = .ok (.getfield 87, 3) := by decide +kernel
theorem dX3_drop_34 : decode cX3_drop 34 = .ok (.aload_n 0, 1) := by decide +kernel
theorem dX3_drop_35 : decode cX3_drop 35 = .ok (.invokevirtual 93, 3) := by decide +kernel
theorem dX3_drop_38 : decode cX3_drop 38 = .ok (.if_icmp .ne 11, 3) := by decide +kernel
theorem dX3_drop_41 : decode cX3_drop 41 = .ok (.aload_n 0, 1) := by decide +kernel
theorem dX3_drop_42 : decode cX3_drop 42 = .ok (.getfield 26, 3) := by decide +kernel
theorem dX3_drop_45 : decode cX3_drop 45 = .ok (.iconst 0, 1) := by decide +kernel
theorem dX3_drop_46 : decode cX3_drop 46 = .ok (.putfield 87, 3) := by decide +kernel
theorem dX3_drop_49 : decode cX3_drop 49 = .ok (.aload_n 0, 1) := by decide +kernel
theorem dX3_drop_50 : decode cX3_drop 50 = .ok (.getfield 26, 3) := by decide +kernel
theorem dX3_drop_53 : decode cX3_drop 53 = .ok (.getfield 64, 3) := by decide +kernel
theorem dX3_drop_56 : decode cX3_drop 56 = .ok (.ireturn, 1) := by decide +kernel
theorem dX3_result_0 : decode cX3_result 0 = .ok (.aload_n 0, 1) := by decide +kernel
theorem dX3_result_1 : decode cX3_result 1 = .ok (.iload_n 1, 1) := by decide +kernel
theorem dX3_result_2 : decode cX3_result 2 = .ok (.invokevirtual 90, 3) := by decide +kernel
theorem dX3_result_5 : decode cX3_result 5 = .ok (.ifCond .ne 5, 3) := by decide +kernel
theorem dX3_result_8 : decode cX3_result 8 = .ok (.iconst (-1), 1) := by decide +kernel
theorem dX3_result_9 : decode cX3_result 9 = .ok (.ireturn, 1) := by decide +kernel
theorem dX3_result_10 : decode cX3_result 10 = .ok (.aload_n 0, 1) := by decide +kernel
theorem dX3_result_11 : decode cX3_result 11 = .ok (.getfield 26, 3) := by decide +kernel
theorem dX3_result_14 : decode cX3_result 14 = .ok (.getfield 87, 3) := by decide +kernel
theorem dX3_result_17 : decode cX3_result 17 = .ok (.istore_n 2, 1) := by decide +kernel
theorem dX3_result_18 : decode cX3_result 18 = .ok (.aload_n 0, 1) := by decide +kernel
theorem dX3_result_19 : decode cX3_result 19 = .ok (.getfield 26, 3) := by decide +kernel
theorem dX3_result_22 : decode cX3_result 22 = .ok (.iload_n 1, 1) := by decide +kernel
theorem dX3_result_23 : decode cX3_result 23 = .ok (.putfield 87, 3) := by decide +kernel
theorem dX3_result_26 : decode cX3_result 26 = .ok (.iload_n 2, 1) := by decide +kernel
theorem dX3_result_27 : decode cX3_result 27 = .ok (.ireturn, 1) := by decide +kernel
theorem dX3_instruction_0 : decode cX3_instruction 0 = .ok (.iload_n 1, 1) := by decide +kernel
theorem dX3_instruction_1 : decode cX3_instruction 1 = .ok (.ifCond .lt 14, 3) := by decide +kernel
theorem dX3_instruction_4 : decode cX3_instruction 4 = .ok (.iload_n 1, 1) := by decide +kernel
theorem dX3_instruction_5 : decode cX3_instruction 5 = .ok (.aload_n 0, 1) := by decide +kernel
theorem dX3_instruction_6 : decode cX3_instruction 6 = .ok (.getfield 26, 3) := by decide +kernel
theorem dX3_instruction_9 : decode cX3_instruction 9 = .ok (.getfield 64, 3) := by decide +kernel
theorem dX3_instruction_12 : decode cX3_instruction 12 = .ok (.if_icmp .lt 5, 3) := by decide +kernel
theorem dX3_instruction_15 : decode cX3_instruction 15 = .ok (.iconst (-1), 1) := by decide +kernel
theorem dX3_instruction_16 : decode cX3_instruction 16 = .ok (.ireturn, 1) := by decide +kernel
theorem dX3_instruction_17 : decode cX3_instruction 17 = .ok (.iload_n 2, 1) := by decide +kernel
theorem dX3_instruction_18 : decode cX3_instruction 18 = .ok (.tableswitch 56 0 2 #[26, 36, 46], 26) := by decide +kernel
theorem dX3_instruction_44 : decode cX3_instruction 44 = .ok (.aload_n 0, 1) := by decide +kernel
theorem dX3_instruction_45 : decode cX3_instruction 45 = .ok (.getfield 26, 3) := by decide +kernel
theorem dX3_instruction_48 : decode cX3_instruction 48 = .ok (.getfield 106, 3) := by decide +kernel
theorem dX3_instruction_51 : decode cX3_instruction 51 = .ok (.iload_n 1, 1) := by decide +kernel
theorem dX3_instruction_52 : decode cX3_instruction 52 = .ok (.iaload, 1) := by decide +kernel
theorem dX3_instruction_53 : decode cX3_instruction 53 = .ok (.ireturn, 1) := by decide +kernel
theorem dX3_instruction_54 : decode cX3_instruction 54 = .ok (.aload_n 0, 1) := by decide +kernel
theorem dX3_instruction_55 : decode cX3_instruction 55 = .ok (.getfield 26, 3) := by decide +kernel
theorem dX3_instruction_58 : decode cX3_instruction 58 = .ok (.getfield 109, 3) := by decide +kernel
theorem dX3_instruction_61 : decode cX3_instruction 61 = .ok (.iload_n 1, 1) := by decide +kernel
theorem dX3_instruction_62 : decode cX3_instruction 62 = .ok (.iaload, 1) := by decide +kernel
theorem dX3_instruction_63 : decode cX3_instruction 63 = .ok (.ireturn, 1) := by decide +kernel
theorem dX3_instruction_64 : decode cX3_instruction 64 = .ok (.aload_n 0, 1) := by decide +kernel
theorem dX3_instruction_65 : decode cX3_instruction 65 = .ok (.getfield 26, 3) := by decide +kernel
theorem dX3_instruction_68 : decode cX3_instruction 68 = .ok (.getfield 112, 3) := by decide +kernel
theorem dX3_instruction_71 : decode cX3_instruction 71 = .ok (.iload_n 1, 1) := by decide +kernel
theorem dX3_instruction_72 : decode cX3_instruction 72 = .ok (.iaload, 1) := by decide +kernel
theorem dX3_instruction_73 : decode cX3_instruction 73 = .ok (.ireturn, 1) := by decide +kernel
theorem dX3_instruction_74 : decode cX3_instruction 74 = .ok (.bipush (-2), 2) := by decide +kernel
theorem dX3_instruction_76 : decode cX3_instruction 76 = .ok (.ireturn, 1) := by decide +kernel
theorem dX3_count_0 : decode cX3_count 0 = .ok (.iload_n 1, 1) := by decide +kernel
theorem dX3_count_1 : decode cX3_count 1 = .ok (.tableswitch 84 0 5 #[39, 47, 55, 63, 71, 79], 39) := by decide +kernel
theorem dX3_count_40 : decode cX3_count 40 = .ok (.aload_n 0, 1) := by decide +kernel
theorem dX3_count_41 : decode cX3_count 41 = .ok (.getfield 19, 3) := by decide +kernel
theorem dX3_count_44 : decode cX3_count 44 = .ok (.getfield 115, 3) := by decide +kernel
theorem dX3_count_47 : decode cX3_count 47 = .ok (.ireturn, 1) := by decide +kernel
theorem dX3_count_48 : decode cX3_count 48 = .ok (.aload_n 0, 1) := by decide +kernel
theorem dX3_count_49 : decode cX3_count 49 = .ok (.getfield 19, 3) := by decide +kernel
theorem dX3_count_52 : decode cX3_count 52 = .ok (.getfield 118, 3) := by decide +kernel
theorem dX3_count_55 : decode cX3_count 55 = .ok (.ireturn, 1) := by decide +kernel
theorem dX3_count_56 : decode cX3_count 56 = .ok (.aload_n 0, 1) := by decide +kernel
theorem dX3_count_57 : decode cX3_count 57 = .ok (.getfield 19, 3) := by decide +kernel
theorem dX3_count_60 : decode cX3_count 60 = .ok (.getfield 67, 3) := by decide +kernel
theorem dX3_count_63 : decode cX3_count 63 = .ok (.ireturn, 1) := by decide +kernel
theorem dX3_count_64 : decode cX3_count 64 = .ok (.aload_n 0, 1) := by decide +kernel
theorem dX3_count_65 : decode cX3_count 65 = .ok (.getfield 26, 3) := by decide +kernel
theorem dX3_count_68 : decode cX3_count 68 = .ok (.getfield 64, 3) := by decide +kernel
theorem dX3_count_71 : decode cX3_count 71 = .ok (.ireturn, 1) := by decide +kernel
theorem dX3_count_72 : decode cX3_count 72 = .ok (.aload_n 0, 1) := by decide +kernel
theorem dX3_count_73 : decode cX3_count 73 = .ok (.getfield 26, 3) := by decide +kernel
theorem dX3_count_76 : decode cX3_count 76 = .ok (.getfield 87, 3) := by decide +kernel
theorem dX3_count_79 : decode cX3_count 79 = .ok (.ireturn, 1) := by decide +kernel
theorem dX3_count_80 : decode cX3_count 80 = .ok (.aload_n 0, 1) := by decide +kernel
theorem dX3_count_81 : decode cX3_count 81 = .ok (.invokevirtual 121, 3) := by decide +kernel
theorem dX3_count_84 : decode cX3_count 84 = .ok (.ireturn, 1) := by decide +kernel
theorem dX3_count_85 : decode cX3_count 85 = .ok (.bipush (-2), 2) := by decide +kernel
theorem dX3_count_87 : decode cX3_count 87 = .ok (.ireturn, 1) := by decide +kernel
theorem dX3_value_0 : decode cX3_value 0 = .ok (.aload_n 0, 1) := by decide +kernel
theorem dX3_value_1 : decode cX3_value 1 = .ok (.iload_n 1, 1) := by decide +kernel
theorem dX3_value_2 : decode cX3_value 2 = .ok (.invokevirtual 90, 3) := by decide +kernel
theorem dX3_value_5 : decode cX3_value 5 = .ok (.ifCond .eq 14, 3) := by decide +kernel
theorem dX3_value_8 : decode cX3_value 8 = .ok (.aload_n 0, 1) := by decide +kernel
theorem dX3_value_9 : decode cX3_value 9 = .ok (.getfield 19, 3) := by decide +kernel
theorem dX3_value_12 : decode cX3_value 12 = .ok (.iload_n 2, 1) := by decide +kernel
theorem dX3_value_13 : decode cX3_value 13 = .ok (.invokevirtual 80, 3) := by decide +kernel
theorem dX3_value_16 : decode cX3_value 16 = .ok (.ifCond .ne 5, 3) := by decide +kernel
theorem dX3_value_19 : decode cX3_value 19 = .ok (.iconst (-1), 1) := by decide +kernel
theorem dX3_value_20 : decode cX3_value 20 = .ok (.ireturn, 1) := by decide +kernel
theorem dX3_value_21 : decode cX3_value 21 = .ok (.aload_n 0, 1) := by decide +kernel
theorem dX3_value_22 : decode cX3_value 22 = .ok (.getfield 19, 3) := by decide +kernel
theorem dX3_value_25 : decode cX3_value 25 = .ok (.getfield 83, 3) := by decide +kernel
theorem dX3_value_28 : decode cX3_value 28 = .ok (.iload_n 1, 1) := by decide +kernel
theorem dX3_value_29 : decode cX3_value 29 = .ok (.aaload, 1) := by decide +kernel
theorem dX3_value_30 : decode cX3_value 30 = .ok (.iload_n 2, 1) := by decide +kernel
theorem dX3_value_31 : decode cX3_value 31 = .ok (.iaload, 1) := by decide +kernel
theorem dX3_value_32 : decode cX3_value 32 = .ok (.ireturn, 1) := by decide +kernel
theorem dX3_differ_0 : decode cX3_differ 0 = .ok (.aload_n 0, 1) := by decide +kernel
theorem dX3_differ_1 : decode cX3_differ 1 = .ok (.iload_n 1, 1) := by decide +kernel
theorem dX3_differ_2 : decode cX3_differ 2 = .ok (.invokevirtual 90, 3) := by decide +kernel
theorem dX3_differ_5 : decode cX3_differ 5 = .ok (.ifCond .eq 17, 3) := by decide +kernel
theorem dX3_differ_8 : decode cX3_differ 8 = .ok (.iload_n 2, 1) := by decide +kernel
theorem dX3_differ_9 : decode cX3_differ 9 = .ok (.bipush (-2), 2) := by decide +kernel
theorem dX3_differ_11 : decode cX3_differ 11 = .ok (.if_icmp .eq 13, 3) := by decide +kernel
theorem dX3_differ_14 : decode cX3_differ 14 = .ok (.aload_n 0, 1) := by decide +kernel
theorem dX3_differ_15 : decode cX3_differ 15 = .ok (.iload_n 2, 1) := by decide +kernel
theorem dX3_differ_16 : decode cX3_differ 16 = .ok (.invokevirtual 90, 3) := by decide +kernel
theorem dX3_differ_19 : decode cX3_differ 19 = .ok (.ifCond .ne 5, 3) := by decide +kernel
theorem dX3_differ_22 : decode cX3_differ 22 = .ok (.iconst (-1), 1) := by decide +kernel
theorem dX3_differ_23 : decode cX3_differ 23 = .ok (.ireturn, 1) := by decide +kernel
theorem dX3_differ_24 : decode cX3_differ 24 = .ok (.iload_n 2, 1) := by decide +kernel
theorem dX3_differ_25 : decode cX3_differ 25 = .ok (.bipush (-2), 2) := by decide +kernel
theorem dX3_differ_27 : decode cX3_differ 27 = .ok (.if_icmp .ne 10, 3) := by decide +kernel
theorem dX3_differ_30 : decode cX3_differ 30 = .ok (.aload_n 0, 1) := by decide +kernel
theorem dX3_differ_31 : decode cX3_differ 31 = .ok (.getfield 13, 3) := by decide +kernel
theorem dX3_differ_34 : decode cX3_differ 34 = .ok (.goto 12, 3) := by decide +kernel
theorem dX3_differ_37 : decode cX3_differ 37 = .ok (.aload_n 0, 1) := by decide +kernel
theorem dX3_differ_38 : decode cX3_differ 38 = .ok (.getfield 19, 3) := by decide +kernel
theorem dX3_differ_41 : decode cX3_differ 41 = .ok (.getfield 83, 3) := by decide +kernel
theorem dX3_differ_44 : decode cX3_differ 44 = .ok (.iload_n 2, 1) := by decide +kernel
theorem dX3_differ_45 : decode cX3_differ 45 = .ok (.aaload, 1) := by decide +kernel
theorem dX3_differ_46 : decode cX3_differ 46 = .ok (.astore_n 3, 1) := by decide +kernel
theorem dX3_differ_47 : decode cX3_differ 47 = .ok (.aload_n 0, 1) := by decide +kernel
theorem dX3_differ_48 : decode cX3_differ 48 = .ok (.getfield 19, 3) := by decide +kernel
theorem dX3_differ_51 : decode cX3_differ 51 = .ok (.aload_n 0, 1) := by decide +kernel
theorem dX3_differ_52 : decode cX3_differ 52 = .ok (.getfield 19, 3) := by decide +kernel
theorem dX3_differ_55 : decode cX3_differ 55 = .ok (.getfield 83, 3) := by decide +kernel
theorem dX3_differ_58 : decode cX3_differ 58 = .ok (.iload_n 1, 1) := by decide +kernel
theorem dX3_differ_59 : decode cX3_differ 59 = .ok (.aaload, 1) := by decide +kernel
theorem dX3_differ_60 : decode cX3_differ 60 = .ok (.aload_n 3, 1) := by decide +kernel
theorem dX3_differ_61 : decode cX3_differ 61 = .ok (.invokevirtual 124, 3) := by decide +kernel
theorem dX3_differ_64 : decode cX3_differ 64 = .ok (.istore 4, 2) := by decide +kernel
theorem dX3_differ_66 : decode cX3_differ 66 = .ok (.iload 4, 2) := by decide +kernel
theorem dX3_differ_68 : decode cX3_differ 68 = .ok (.ifCond .ge 8, 3) := by decide +kernel
theorem dX3_differ_71 : decode cX3_differ 71 = .ok (.bipush (-5), 2) := by decide +kernel
theorem dX3_differ_73 : decode cX3_differ 73 = .ok (.goto 5, 3) := by decide +kernel
theorem dX3_differ_76 : decode cX3_differ 76 = .ok (.iload 4, 2) := by decide +kernel
theorem dX3_differ_78 : decode cX3_differ 78 = .ok (.ireturn, 1) := by decide +kernel
theorem dX3_clean_0 : decode cX3_clean 0 = .ok (.aload_n 0, 1) := by decide +kernel
theorem dX3_clean_1 : decode cX3_clean 1 = .ok (.getfield 26, 3) := by decide +kernel
theorem dX3_clean_4 : decode cX3_clean 4 = .ok (.getfield 64, 3) := by decide +kernel
theorem dX3_clean_7 : decode cX3_clean 7 = .ok (.istore_n 1, 1) := by decide +kernel
theorem dX3_clean_8 : decode cX3_clean 8 = .ok (.iconst 0, 1) := by decide +kernel
theorem dX3_clean_9 : decode cX3_clean 9 = .ok (.istore_n 2, 1) := by decide +kernel
theorem dX3_clean_10 : decode cX3_clean 10 = .ok (.iload_n 2, 1) := by decide +kernel
theorem dX3_clean_11 : decode cX3_clean 11 = .ok (.iload_n 1, 1) := by decide +kernel
theorem dX3_clean_12 : decode cX3_clean 12 = .ok (.if_icmp .ge 26, 3) := by decide +kernel
theorem dX3_clean_15 : decode cX3_clean 15 = .ok (.aload_n 0, 1) := by decide +kernel
theorem dX3_clean_16 : decode cX3_clean 16 = .ok (.invokevirtual 128, 3) := by decide +kernel
theorem dX3_clean_19 : decode cX3_clean 19 = .ok (.ifCond .ne 13, 3) := by decide +kernel
theorem dX3_clean_22 : decode cX3_clean 22 = .ok (.aload_n 0, 1) := by decide +kernel
theorem dX3_clean_23 : decode cX3_clean 23 = .ok (.invokevirtual 132, 3) := by decide +kernel
theorem dX3_clean_26 : decode cX3_clean 26 = .ok (.ifCond .ne 6, 3) := by decide +kernel
theorem dX3_clean_29 : decode cX3_clean 29 = .ok (.goto 9, 3) := by decide +kernel
theorem dX3_clean_32 : decode cX3_clean 32 = .ok (.iinc 2 1, 3) := by decide +kernel
theorem dX3_clean_35 : decode cX3_clean 35 = .ok (.goto (-25), 3) := by decide +kernel
theorem dX3_clean_38 : decode cX3_clean 38 = .ok (.iload_n 1, 1) := by decide +kernel
theorem dX3_clean_39 : decode cX3_clean 39 = .ok (.aload_n 0, 1) := by decide +kernel
theorem dX3_clean_40 : decode cX3_clean 40 = .ok (.getfield 26, 3) := by decide +kernel
theorem dX3_clean_43 : decode cX3_clean 43 = .ok (.getfield 64, 3) := by decide +kernel
theorem dX3_clean_46 : decode cX3_clean 46 = .ok (.isub, 1) := by decide +kernel
theorem dX3_clean_47 : decode cX3_clean 47 = .ok (.ireturn, 1) := by decide +kernel
theorem dX3_search_0 : decode cX3_search 0 = .ok (.iload_n 1, 1) := by decide +kernel
theorem dX3_search_1 : decode cX3_search 1 = .ok (.ifCond .lt 20, 3) := by decide +kernel
theorem dX3_search_4 : decode cX3_search 4 = .ok (.iload_n 1, 1) := by decide +kernel
theorem dX3_search_5 : decode cX3_search 5 = .ok (.bipush 30, 2) := by decide +kernel
theorem dX3_search_7 : decode cX3_search 7 = .ok (.if_icmp .gt 14, 3) := by decide +kernel
theorem dX3_search_10 : decode cX3_search 10 = .ok (.iload_n 2, 1) := by decide +kernel
theorem dX3_search_11 : decode cX3_search 11 = .ok (.ifCond .lt 10, 3) := by decide +kernel
theorem dX3_search_14 : decode cX3_search 14 = .ok (.iload_n 2, 1) := by decide +kernel
theorem dX3_search_15 : decode cX3_search 15 = .ok (.sipush 30000, 3) := by decide +kernel
theorem dX3_search_18 : decode cX3_search 18 = .ok (.if_icmp .le 6, 3) := by decide +kernel
theorem dX3_search_21 : decode cX3_search 21 = .ok (.bipush (-2), 2) := by decide +kernel
theorem dX3_search_23 : decode cX3_search 23 = .ok (.ireturn, 1) := by decide +kernel
theorem dX3_search_24 : decode cX3_search 24 = .ok (.iload_n 3, 1) := by decide +kernel
theorem dX3_search_25 : decode cX3_search 25 = .ok (.ifCond .eq 11, 3) := by decide +kernel
theorem dX3_search_28 : decode cX3_search 28 = .ok (.iload_n 3, 1) := by decide +kernel
theorem dX3_search_29 : decode cX3_search 29 = .ok (.iconst 1, 1) := by decide +kernel
theorem dX3_search_30 : decode cX3_search 30 = .ok (.if_icmp .eq 6, 3) := by decide +kernel
theorem dX3_search_33 : decode cX3_search 33 = .ok (.bipush (-2), 2) := by decide +kernel
theorem dX3_search_35 : decode cX3_search 35 = .ok (.ireturn, 1) := by decide +kernel
theorem dX3_search_36 : decode cX3_search 36 = .ok (.aload_n 0, 1) := by decide +kernel
theorem dX3_search_37 : decode cX3_search 37 = .ok (.getfield 40, 3) := by decide +kernel
theorem dX3_search_40 : decode cX3_search 40 = .ok (.aload_n 0, 1) := by decide +kernel
theorem dX3_search_41 : decode cX3_search 41 = .ok (.getfield 19, 3) := by decide +kernel
theorem dX3_search_44 : decode cX3_search 44 = .ok (.aload_n 0, 1) := by decide +kernel
theorem dX3_search_45 : decode cX3_search 45 = .ok (.getfield 9, 3) := by decide +kernel
theorem dX3_search_48 : decode cX3_search 48 = .ok (.aload_n 0, 1) := by decide +kernel
theorem dX3_search_49 : decode cX3_search 49 = .ok (.getfield 13, 3) := by decide +kernel
theorem dX3_search_52 : decode cX3_search 52 = .ok (.invokevirtual 135, 3) := by decide +kernel
theorem dX3_search_55 : decode cX3_search 55 = .ok (.aload_n 0, 1) := by decide +kernel
theorem dX3_search_56 : decode cX3_search 56 = .ok (.getfield 40, 3) := by decide +kernel
theorem dX3_search_59 : decode cX3_search 59 = .ok (.iload_n 1, 1) := by decide +kernel
theorem dX3_search_60 : decode cX3_search 60 = .ok (.iload_n 2, 1) := by decide +kernel
theorem dX3_search_61 : decode cX3_search 61 = .ok (.iload_n 3, 1) := by decide +kernel
theorem dX3_search_62 : decode cX3_search 62 = .ok (.iconst 1, 1) := by decide +kernel
theorem dX3_search_63 : decode cX3_search 63 = .ok (.if_icmp .ne 7, 3) := by decide +kernel
theorem dX3_search_66 : decode cX3_search 66 = .ok (.iconst 1, 1) := by decide +kernel
theorem dX3_search_67 : decode cX3_search 67 = .ok (.goto 4, 3) := by decide +kernel
theorem dX3_search_70 : decode cX3_search 70 = .ok (.iconst 0, 1) := by decide +kernel
theorem dX3_search_71 : decode cX3_search 71 = .ok (.invokevirtual 139, 3) := by decide +kernel
theorem dX3_search_74 : decode cX3_search 74 = .ok (.istore 4, 2) := by decide +kernel
theorem dX3_search_76 : decode cX3_search 76 = .ok (.iload 4, 2) := by decide +kernel
theorem dX3_search_78 : decode cX3_search 78 = .ok (.ifCond .lt 22, 3) := by decide +kernel
theorem dX3_search_81 : decode cX3_search 81 = .ok (.aload_n 0, 1) := by decide +kernel
theorem dX3_search_82 : decode cX3_search 82 = .ok (.getfield 30, 3) := by decide +kernel
theorem dX3_search_85 : decode cX3_search 85 = .ok (.aload_n 0, 1) := by decide +kernel
theorem dX3_search_86 : decode cX3_search 86 = .ok (.getfield 40, 3) := by decide +kernel
theorem dX3_search_89 : decode cX3_search 89 = .ok (.getfield 143, 3) := by decide +kernel
theorem dX3_search_92 : decode cX3_search 92 = .ok (.invokevirtual 146, 3) := by decide +kernel
theorem dX3_search_95 : decode cX3_search 95 = .ok (.aload_n 0, 1) := by decide +kernel
theorem dX3_search_96 : decode cX3_search 96 = .ok (.iconst 1, 1) := by decide +kernel
theorem dX3_search_97 : decode cX3_search 97 = .ok (.putfield 52, 3) := by decide +kernel
theorem dX3_search_100 : decode cX3_search 100 = .ok (.iload 4, 2) := by decide +kernel
theorem dX3_search_102 : decode cX3_search 102 = .ok (.ireturn, 1) := by decide +kernel
theorem dX3_told_0 : decode cX3_told 0 = .ok (.iload_n 1, 1) := by decide +kernel
theorem dX3_told_1 : decode cX3_told 1 = .ok (.tableswitch 63 0 3 #[31, 39, 47, 55], 31) := by decide +kernel
theorem dX3_told_32 : decode cX3_told 32 = .ok (.aload_n 0, 1) := by decide +kernel
theorem dX3_told_33 : decode cX3_told 33 = .ok (.getfield 40, 3) := by decide +kernel
theorem dX3_told_36 : decode cX3_told 36 = .ok (.getfield 150, 3) := by decide +kernel
theorem dX3_told_39 : decode cX3_told 39 = .ok (.ireturn, 1) := by decide +kernel
theorem dX3_told_40 : decode cX3_told 40 = .ok (.aload_n 0, 1) := by decide +kernel
theorem dX3_told_41 : decode cX3_told 41 = .ok (.getfield 40, 3) := by decide +kernel
theorem dX3_told_44 : decode cX3_told 44 = .ok (.getfield 153, 3) := by decide +kernel
theorem dX3_told_47 : decode cX3_told 47 = .ok (.ireturn, 1) := by decide +kernel
theorem dX3_told_48 : decode cX3_told 48 = .ok (.aload_n 0, 1) := by decide +kernel
theorem dX3_told_49 : decode cX3_told 49 = .ok (.getfield 40, 3) := by decide +kernel
theorem dX3_told_52 : decode cX3_told 52 = .ok (.getfield 156, 3) := by decide +kernel
theorem dX3_told_55 : decode cX3_told 55 = .ok (.ireturn, 1) := by decide +kernel
theorem dX3_told_56 : decode cX3_told 56 = .ok (.aload_n 0, 1) := by decide +kernel
theorem dX3_told_57 : decode cX3_told 57 = .ok (.getfield 40, 3) := by decide +kernel
theorem dX3_told_60 : decode cX3_told 60 = .ok (.getfield 159, 3) := by decide +kernel
theorem dX3_told_63 : decode cX3_told 63 = .ok (.ireturn, 1) := by decide +kernel
theorem dX3_told_64 : decode cX3_told 64 = .ok (.bipush (-2), 2) := by decide +kernel
theorem dX3_told_66 : decode cX3_told 66 = .ok (.ireturn, 1) := by decide +kernel
theorem dX3_take_0 : decode cX3_take 0 = .ok (.aload_n 0, 1) := by decide +kernel
theorem dX3_take_1 : decode cX3_take 1 = .ok (.getfield 52, 3) := by decide +kernel
theorem dX3_take_4 : decode cX3_take 4 = .ok (.ifCond .ne 6, 3) := by decide +kernel
theorem dX3_take_7 : decode cX3_take 7 = .ok (.bipush (-3), 2) := by decide +kernel
theorem dX3_take_9 : decode cX3_take 9 = .ok (.ireturn, 1) := by decide +kernel
theorem dX3_take_10 : decode cX3_take 10 = .ok (.aload_n 0, 1) := by decide +kernel
theorem dX3_take_11 : decode cX3_take 11 = .ok (.getfield 26, 3) := by decide +kernel
theorem dX3_take_14 : decode cX3_take 14 = .ok (.aload_n 0, 1) := by decide +kernel
theorem dX3_take_15 : decode cX3_take 15 = .ok (.getfield 30, 3) := by decide +kernel
theorem dX3_take_18 : decode cX3_take 18 = .ok (.invokevirtual 146, 3) := by decide +kernel
theorem dX3_take_21 : decode cX3_take 21 = .ok (.aload_n 0, 1) := by decide +kernel
theorem dX3_take_22 : decode cX3_take 22 = .ok (.iconst 0, 1) := by decide +kernel
theorem dX3_take_23 : decode cX3_take 23 = .ok (.invokevirtual 103, 3) := by decide +kernel
theorem dX3_take_26 : decode cX3_take 26 = .ok (.aload_n 0, 1) := by decide +kernel
theorem dX3_take_27 : decode cX3_take 27 = .ok (.getfield 26, 3) := by decide +kernel
theorem dX3_take_30 : decode cX3_take 30 = .ok (.getfield 64, 3) := by decide +kernel
theorem dX3_take_33 : decode cX3_take 33 = .ok (.ireturn, 1) := by decide +kernel
theorem dX3_isOperation_0 : decode cX3_isOperation 0 = .ok (.iload_n 0, 1) := by decide +kernel
theorem dX3_isOperation_1 : decode cX3_isOperation 1 = .ok (.ifCond .lt 13, 3) := by decide +kernel
theorem dX3_isOperation_4 : decode cX3_isOperation 4 = .ok (.iload_n 0, 1) := by decide +kernel
theorem dX3_isOperation_5 : decode cX3_isOperation 5 = .ok (.bipush 13, 2) := by decide +kernel
theorem dX3_isOperation_7 : decode cX3_isOperation 7 = .ok (.if_icmp .ge 7, 3) := by decide +kernel
theorem dX3_isOperation_10 : decode cX3_isOperation 10 = .ok (.iconst 1, 1) := by decide +kernel
theorem dX3_isOperation_11 : decode cX3_isOperation 11 = .ok (.goto 4, 3) := by decide +kernel
theorem dX3_isOperation_14 : decode cX3_isOperation 14 = .ok (.iconst 0, 1) := by decide +kernel
theorem dX3_isOperation_15 : decode cX3_isOperation 15 = .ok (.ireturn, 1) := by decide +kernel
theorem dX3_takesOne_0 : decode cX3_takesOne 0 = .ok (.iload_n 0, 1) := by decide +kernel
theorem dX3_takesOne_1 : decode cX3_takesOne 1 = .ok (.ifCond .eq 8, 3) := by decide +kernel
theorem dX3_takesOne_4 : decode cX3_takesOne 4 = .ok (.iload_n 0, 1) := by decide +kernel
theorem dX3_takesOne_5 : decode cX3_takesOne 5 = .ok (.iconst 1, 1) := by decide +kernel
theorem dX3_takesOne_6 : decode cX3_takesOne 6 = .ok (.if_icmp .ne 7, 3) := by decide +kernel
theorem dX3_takesOne_9 : decode cX3_takesOne 9 = .ok (.iconst 1, 1) := by decide +kernel
theorem dX3_takesOne_10 : decode cX3_takesOne 10 = .ok (.goto 4, 3) := by decide +kernel
theorem dX3_takesOne_13 : decode cX3_takesOne 13 = .ok (.iconst 0, 1) := by decide +kernel
theorem dX3_takesOne_14 : decode cX3_takesOne 14 = .ok (.ireturn, 1) := by decide +kernel
theorem dX3_isOrdered_0 : decode cX3_isOrdered 0 = .ok (.iload_n 0, 1) := by decide +kernel
theorem dX3_isOrdered_1 : decode cX3_isOrdered 1 = .ok (.tableswitch 61 2 12 #[59, 59, 59, 59, 61, 59, 61, 61, 61, 61, 59], 59) := by decide +kernel
theorem dX3_isOrdered_60 : decode cX3_isOrdered 60 = .ok (.iconst 1, 1) := by decide +kernel
theorem dX3_isOrdered_61 : decode cX3_isOrdered 61 = .ok (.ireturn, 1) := by decide +kernel
theorem dX3_isOrdered_62 : decode cX3_isOrdered 62 = .ok (.iconst 0, 1) := by decide +kernel
theorem dX3_isOrdered_63 : decode cX3_isOrdered 63 = .ok (.ireturn, 1) := by decide +kernel
theorem dX3_valueCount_0 : decode cX3_valueCount 0 = .ok (.aload_n 0, 1) := by decide +kernel
theorem dX3_valueCount_1 : decode cX3_valueCount 1 = .ok (.getfield 19, 3) := by decide +kernel
theorem dX3_valueCount_4 : decode cX3_valueCount 4 = .ok (.invokevirtual 73, 3) := by decide +kernel
theorem dX3_valueCount_7 : decode cX3_valueCount 7 = .ok (.aload_n 0, 1) := by decide +kernel
theorem dX3_valueCount_8 : decode cX3_valueCount 8 = .ok (.getfield 26, 3) := by decide +kernel
theorem dX3_valueCount_11 : decode cX3_valueCount 11 = .ok (.getfield 64, 3) := by decide +kernel
theorem dX3_valueCount_14 : decode cX3_valueCount 14 = .ok (.iadd, 1) := by decide +kernel
theorem dX3_valueCount_15 : decode cX3_valueCount 15 = .ok (.ireturn, 1) := by decide +kernel
theorem dX3_isValue_0 : decode cX3_isValue 0 = .ok (.iload_n 1, 1) := by decide +kernel
theorem dX3_isValue_1 : decode cX3_isValue 1 = .ok (.ifCond .lt 15, 3) := by decide +kernel
theorem dX3_isValue_4 : decode cX3_isValue 4 = .ok (.iload_n 1, 1) := by decide +kernel
theorem dX3_isValue_5 : decode cX3_isValue 5 = .ok (.aload_n 0, 1) := by decide +kernel
theorem dX3_isValue_6 : decode cX3_isValue 6 = .ok (.invokevirtual 93, 3) := by decide +kernel
theorem dX3_isValue_9 : decode cX3_isValue 9 = .ok (.if_icmp .ge 7, 3) := by decide +kernel
theorem dX3_isValue_12 : decode cX3_isValue 12 = .ok (.iconst 1, 1) := by decide +kernel
theorem dX3_isValue_13 : decode cX3_isValue 13 = .ok (.goto 4, 3) := by decide +kernel
theorem dX3_isValue_16 : decode cX3_isValue 16 = .ok (.iconst 0, 1) := by decide +kernel
theorem dX3_isValue_17 : decode cX3_isValue 17 = .ok (.ireturn, 1) := by decide +kernel
theorem dX3_programCost_0 : decode cX3_programCost 0 = .ok (.iconst 0, 1) := by decide +kernel
theorem dX3_programCost_1 : decode cX3_programCost 1 = .ok (.istore_n 1, 1) := by decide +kernel
theorem dX3_programCost_2 : decode cX3_programCost 2 = .ok (.iconst 0, 1) := by decide +kernel
theorem dX3_programCost_3 : decode cX3_programCost 3 = .ok (.istore_n 2, 1) := by decide +kernel
theorem dX3_programCost_4 : decode cX3_programCost 4 = .ok (.iload_n 2, 1) := by decide +kernel
theorem dX3_programCost_5 : decode cX3_programCost 5 = .ok (.aload_n 0, 1) := by decide +kernel
theorem dX3_programCost_6 : decode cX3_programCost 6 = .ok (.getfield 26, 3) := by decide +kernel
theorem dX3_programCost_9 : decode cX3_programCost 9 = .ok (.getfield 64, 3) := by decide +kernel
theorem dX3_programCost_12 : decode cX3_programCost 12 = .ok (.if_icmp .ge 26, 3) := by decide +kernel
theorem dX3_programCost_15 : decode cX3_programCost 15 = .ok (.iload_n 1, 1) := by decide +kernel
theorem dX3_programCost_16 : decode cX3_programCost 16 = .ok (.aload_n 0, 1) := by decide +kernel
theorem dX3_programCost_17 : decode cX3_programCost 17 = .ok (.getfield 9, 3) := by decide +kernel
theorem dX3_programCost_20 : decode cX3_programCost 20 = .ok (.aload_n 0, 1) := by decide +kernel
theorem dX3_programCost_21 : decode cX3_programCost 21 = .ok (.getfield 26, 3) := by decide +kernel
theorem dX3_programCost_24 : decode cX3_programCost 24 = .ok (.getfield 106, 3) := by decide +kernel
theorem dX3_programCost_27 : decode cX3_programCost 27 = .ok (.iload_n 2, 1) := by decide +kernel
theorem dX3_programCost_28 : decode cX3_programCost 28 = .ok (.iaload, 1) := by decide +kernel
theorem dX3_programCost_29 : decode cX3_programCost 29 = .ok (.iaload, 1) := by decide +kernel
theorem dX3_programCost_30 : decode cX3_programCost 30 = .ok (.iadd, 1) := by decide +kernel
theorem dX3_programCost_31 : decode cX3_programCost 31 = .ok (.istore_n 1, 1) := by decide +kernel
theorem dX3_programCost_32 : decode cX3_programCost 32 = .ok (.iinc 2 1, 3) := by decide +kernel
theorem dX3_programCost_35 : decode cX3_programCost 35 = .ok (.goto (-31), 3) := by decide +kernel
theorem dX3_programCost_38 : decode cX3_programCost 38 = .ok (.iload_n 1, 1) := by decide +kernel
theorem dX3_programCost_39 : decode cX3_programCost 39 = .ok (.ireturn, 1) := by decide +kernel
theorem dX3_makeFrom_0 : decode cX3_makeFrom 0 = .ok (.aload_n 0, 1) := by decide +kernel
theorem dX3_makeFrom_1 : decode cX3_makeFrom 1 = .ok (.getfield 19, 3) := by decide +kernel
theorem dX3_makeFrom_4 : decode cX3_makeFrom 4 = .ok (.invokevirtual 73, 3) := by decide +kernel
theorem dX3_makeFrom_7 : decode cX3_makeFrom 7 = .ok (.istore_n 2, 1) := by decide +kernel
theorem dX3_makeFrom_8 : decode cX3_makeFrom 8 = .ok (.iload_n 1, 1) := by decide +kernel
theorem dX3_makeFrom_9 : decode cX3_makeFrom 9 = .ok (.istore_n 3, 1) := by decide +kernel
theorem dX3_makeFrom_10 : decode cX3_makeFrom 10 = .ok (.iload_n 3, 1) := by decide +kernel
theorem dX3_makeFrom_11 : decode cX3_makeFrom 11 = .ok (.aload_n 0, 1) := by decide +kernel
theorem dX3_makeFrom_12 : decode cX3_makeFrom 12 = .ok (.getfield 26, 3) := by decide +kernel
theorem dX3_makeFrom_15 : decode cX3_makeFrom 15 = .ok (.getfield 64, 3) := by decide +kernel
theorem dX3_makeFrom_18 : decode cX3_makeFrom 18 = .ok (.if_icmp .ge 46, 3) := by decide +kernel
theorem dX3_makeFrom_21 : decode cX3_makeFrom 21 = .ok (.aload_n 0, 1) := by decide +kernel
theorem dX3_makeFrom_22 : decode cX3_makeFrom 22 = .ok (.getfield 19, 3) := by decide +kernel
theorem dX3_makeFrom_25 : decode cX3_makeFrom 25 = .ok (.iload_n 2, 1) := by decide +kernel
theorem dX3_makeFrom_26 : decode cX3_makeFrom 26 = .ok (.iload_n 3, 1) := by decide +kernel
theorem dX3_makeFrom_27 : decode cX3_makeFrom 27 = .ok (.iadd, 1) := by decide +kernel
theorem dX3_makeFrom_28 : decode cX3_makeFrom 28 = .ok (.aload_n 0, 1) := by decide +kernel
theorem dX3_makeFrom_29 : decode cX3_makeFrom 29 = .ok (.getfield 26, 3) := by decide +kernel
theorem dX3_makeFrom_32 : decode cX3_makeFrom 32 = .ok (.getfield 106, 3) := by decide +kernel
theorem dX3_makeFrom_35 : decode cX3_makeFrom 35 = .ok (.iload_n 3, 1) := by decide +kernel
theorem dX3_makeFrom_36 : decode cX3_makeFrom 36 = .ok (.iaload, 1) := by decide +kernel
theorem dX3_makeFrom_37 : decode cX3_makeFrom 37 = .ok (.aload_n 0, 1) := by decide +kernel
theorem dX3_makeFrom_38 : decode cX3_makeFrom 38 = .ok (.getfield 26, 3) := by decide +kernel
theorem dX3_makeFrom_41 : decode cX3_makeFrom 41 = .ok (.getfield 109, 3) := by decide +kernel
theorem dX3_makeFrom_44 : decode cX3_makeFrom 44 = .ok (.iload_n 3, 1) := by decide +kernel
theorem dX3_makeFrom_45 : decode cX3_makeFrom 45 = .ok (.iaload, 1) := by decide +kernel
theorem dX3_makeFrom_46 : decode cX3_makeFrom 46 = .ok (.aload_n 0, 1) := by decide +kernel
theorem dX3_makeFrom_47 : decode cX3_makeFrom 47 = .ok (.getfield 26, 3) := by decide +kernel
theorem dX3_makeFrom_50 : decode cX3_makeFrom 50 = .ok (.getfield 112, 3) := by decide +kernel
theorem dX3_makeFrom_53 : decode cX3_makeFrom 53 = .ok (.iload_n 3, 1) := by decide +kernel
theorem dX3_makeFrom_54 : decode cX3_makeFrom 54 = .ok (.iaload, 1) := by decide +kernel
theorem dX3_makeFrom_55 : decode cX3_makeFrom 55 = .ok (.invokevirtual 162, 3) := by decide +kernel
theorem dX3_makeFrom_58 : decode cX3_makeFrom 58 = .ok (.iinc 3 1, 3) := by decide +kernel
theorem dX3_makeFrom_61 : decode cX3_makeFrom 61 = .ok (.goto (-51), 3) := by decide +kernel
theorem dX3_makeFrom_64 : decode cX3_makeFrom 64 = .ok (.return_, 1) := by decide +kernel
theorem dX3_takeOutRepeated_0 : decode cX3_takeOutRepeated 0 = .ok (.aload_n 0, 1) := by decide +kernel
theorem dX3_takeOutRepeated_1 : decode cX3_takeOutRepeated 1 = .ok (.getfield 19, 3) := by decide +kernel
theorem dX3_takeOutRepeated_4 : decode cX3_takeOutRepeated 4 = .ok (.invokevirtual 73, 3) := by decide +kernel
theorem dX3_takeOutRepeated_7 : decode cX3_takeOutRepeated 7 = .ok (.istore_n 1, 1) := by decide +kernel
theorem dX3_takeOutRepeated_8 : decode cX3_takeOutRepeated 8 = .ok (.iconst 0, 1) := by decide +kernel
theorem dX3_takeOutRepeated_9 : decode cX3_takeOutRepeated 9 = .ok (.istore_n 2, 1) := by decide +kernel
theorem dX3_takeOutRepeated_10 : decode cX3_takeOutRepeated 10 = .ok (.iload_n 2, 1) := by decide +kernel
theorem dX3_takeOutRepeated_11 : decode cX3_takeOutRepeated 11 = .ok (.aload_n 0, 1) := by decide +kernel
theorem dX3_takeOutRepeated_12 : decode cX3_takeOutRepeated 12 = .ok (.getfield 26, 3) := by decide +kernel
theorem dX3_takeOutRepeated_15 : decode cX3_takeOutRepeated 15 = .ok (.getfield 64, 3) := by decide +kernel
theorem dX3_takeOutRepeated_18 : decode cX3_takeOutRepeated 18 = .ok (.if_icmp .ge 32, 3) := by decide +kernel
theorem dX3_takeOutRepeated_21 : decode cX3_takeOutRepeated 21 = .ok (.aload_n 0, 1) := by decide +kernel
theorem dX3_takeOutRepeated_22 : decode cX3_takeOutRepeated 22 = .ok (.getfield 19, 3) := by decide +kernel
theorem dX3_takeOutRepeated_25 : decode cX3_takeOutRepeated 25 = .ok (.iload_n 1, 1) := by decide +kernel
theorem dX3_takeOutRepeated_26 : decode cX3_takeOutRepeated 26 = .ok (.iload_n 2, 1) := by decide +kernel
theorem dX3_takeOutRepeated_27 : decode cX3_takeOutRepeated 27 = .ok (.iadd, 1) := by decide +kernel
theorem dX3_takeOutRepeated_28 : decode cX3_takeOutRepeated 28 = .ok (.invokevirtual 165, 3) := by decide +kernel
theorem dX3_takeOutRepeated_31 : decode cX3_takeOutRepeated 31 = .ok (.istore_n 3, 1) := by decide +kernel
theorem dX3_takeOutRepeated_32 : decode cX3_takeOutRepeated 32 = .ok (.iload_n 3, 1) := by decide +kernel
theorem dX3_takeOutRepeated_33 : decode cX3_takeOutRepeated 33 = .ok (.ifCond .lt 11, 3) := by decide +kernel
theorem dX3_takeOutRepeated_36 : decode cX3_takeOutRepeated 36 = .ok (.aload_n 0, 1) := by decide +kernel
theorem dX3_takeOutRepeated_37 : decode cX3_takeOutRepeated 37 = .ok (.iload_n 2, 1) := by decide +kernel
theorem dX3_takeOutRepeated_38 : decode cX3_takeOutRepeated 38 = .ok (.iload_n 3, 1) := by decide +kernel
theorem dX3_takeOutRepeated_39 : decode cX3_takeOutRepeated 39 = .ok (.invokevirtual 169, 3) := by decide +kernel
theorem dX3_takeOutRepeated_42 : decode cX3_takeOutRepeated 42 = .ok (.iconst 1, 1) := by decide +kernel
theorem dX3_takeOutRepeated_43 : decode cX3_takeOutRepeated 43 = .ok (.ireturn, 1) := by decide +kernel
theorem dX3_takeOutRepeated_44 : decode cX3_takeOutRepeated 44 = .ok (.iinc 2 1, 3) := by decide +kernel
theorem dX3_takeOutRepeated_47 : decode cX3_takeOutRepeated 47 = .ok (.goto (-37), 3) := by decide +kernel
theorem dX3_takeOutRepeated_50 : decode cX3_takeOutRepeated 50 = .ok (.iconst 0, 1) := by decide +kernel
theorem dX3_takeOutRepeated_51 : decode cX3_takeOutRepeated 51 = .ok (.ireturn, 1) := by decide +kernel
theorem dX3_takeOutNeedless_0 : decode cX3_takeOutNeedless 0 = .ok (.aload_n 0, 1) := by decide +kernel
theorem dX3_takeOutNeedless_1 : decode cX3_takeOutNeedless 1 = .ok (.invokevirtual 172, 3) := by decide +kernel
theorem dX3_takeOutNeedless_4 : decode cX3_takeOutNeedless 4 = .ok (.aload_n 0, 1) := by decide +kernel
theorem dX3_takeOutNeedless_5 : decode cX3_takeOutNeedless 5 = .ok (.getfield 19, 3) := by decide +kernel
theorem dX3_takeOutNeedless_8 : decode cX3_takeOutNeedless 8 = .ok (.invokevirtual 73, 3) := by decide +kernel
theorem dX3_takeOutNeedless_11 : decode cX3_takeOutNeedless 11 = .ok (.istore_n 1, 1) := by decide +kernel
theorem dX3_takeOutNeedless_12 : decode cX3_takeOutNeedless 12 = .ok (.aload_n 0, 1) := by decide +kernel
theorem dX3_takeOutNeedless_13 : decode cX3_takeOutNeedless 13 = .ok (.getfield 26, 3) := by decide +kernel
theorem dX3_takeOutNeedless_16 : decode cX3_takeOutNeedless 16 = .ok (.getfield 64, 3) := by decide +kernel
theorem dX3_takeOutNeedless_19 : decode cX3_takeOutNeedless 19 = .ok (.iconst 1, 1) := by decide +kernel
theorem dX3_takeOutNeedless_20 : decode cX3_takeOutNeedless 20 = .ok (.isub, 1) := by decide +kernel
theorem dX3_takeOutNeedless_21 : decode cX3_takeOutNeedless 21 = .ok (.istore_n 2, 1) := by decide +kernel
theorem dX3_takeOutNeedless_22 : decode cX3_takeOutNeedless 22 = .ok (.iload_n 2, 1) := by decide +kernel
theorem dX3_takeOutNeedless_23 : decode cX3_takeOutNeedless 23 = .ok (.ifCond .lt 28, 3) := by decide +kernel
theorem dX3_takeOutNeedless_26 : decode cX3_takeOutNeedless 26 = .ok (.aload_n 0, 1) := by decide +kernel
theorem dX3_takeOutNeedless_27 : decode cX3_takeOutNeedless 27 = .ok (.getfield 33, 3) := by decide +kernel
theorem dX3_takeOutNeedless_30 : decode cX3_takeOutNeedless 30 = .ok (.iload_n 1, 1) := by decide +kernel
theorem dX3_takeOutNeedless_31 : decode cX3_takeOutNeedless 31 = .ok (.iload_n 2, 1) := by decide +kernel
theorem dX3_takeOutNeedless_32 : decode cX3_takeOutNeedless 32 = .ok (.iadd, 1) := by decide +kernel
theorem dX3_takeOutNeedless_33 : decode cX3_takeOutNeedless 33 = .ok (.baload, 1) := by decide +kernel
theorem dX3_takeOutNeedless_34 : decode cX3_takeOutNeedless 34 = .ok (.ifCond .ne 11, 3) := by decide +kernel
theorem dX3_takeOutNeedless_37 : decode cX3_takeOutNeedless 37 = .ok (.aload_n 0, 1) := by decide +kernel
theorem dX3_takeOutNeedless_38 : decode cX3_takeOutNeedless 38 = .ok (.iload_n 2, 1) := by decide +kernel
theorem dX3_takeOutNeedless_39 : decode cX3_takeOutNeedless 39 = .ok (.iconst 0, 1) := by decide +kernel
theorem dX3_takeOutNeedless_40 : decode cX3_takeOutNeedless 40 = .ok (.invokevirtual 169, 3) := by decide +kernel
theorem dX3_takeOutNeedless_43 : decode cX3_takeOutNeedless 43 = .ok (.iconst 1, 1) := by decide +kernel
theorem dX3_takeOutNeedless_44 : decode cX3_takeOutNeedless 44 = .ok (.ireturn, 1) := by decide +kernel
theorem dX3_takeOutNeedless_45 : decode cX3_takeOutNeedless 45 = .ok (.iinc 2 (-1), 3) := by decide +kernel
theorem dX3_takeOutNeedless_48 : decode cX3_takeOutNeedless 48 = .ok (.goto (-26), 3) := by decide +kernel
theorem dX3_takeOutNeedless_51 : decode cX3_takeOutNeedless 51 = .ok (.iconst 0, 1) := by decide +kernel
theorem dX3_takeOutNeedless_52 : decode cX3_takeOutNeedless 52 = .ok (.ireturn, 1) := by decide +kernel
theorem dX3_takeOut_0 : decode cX3_takeOut 0 = .ok (.aload_n 0, 1) := by decide +kernel
theorem dX3_takeOut_1 : decode cX3_takeOut 1 = .ok (.getfield 26, 3) := by decide +kernel
theorem dX3_takeOut_4 : decode cX3_takeOut 4 = .ok (.iload_n 1, 1) := by decide +kernel
theorem dX3_takeOut_5 : decode cX3_takeOut 5 = .ok (.aload_n 0, 1) := by decide +kernel
theorem dX3_takeOut_6 : decode cX3_takeOut 6 = .ok (.getfield 19, 3) := by decide +kernel
theorem dX3_takeOut_9 : decode cX3_takeOut 9 = .ok (.invokevirtual 73, 3) := by decide +kernel
theorem dX3_takeOut_12 : decode cX3_takeOut 12 = .ok (.iload_n 1, 1) := by decide +kernel
theorem dX3_takeOut_13 : decode cX3_takeOut 13 = .ok (.iadd, 1) := by decide +kernel
theorem dX3_takeOut_14 : decode cX3_takeOut 14 = .ok (.iload_n 2, 1) := by decide +kernel
theorem dX3_takeOut_15 : decode cX3_takeOut 15 = .ok (.invokevirtual 175, 3) := by decide +kernel
theorem dX3_takeOut_18 : decode cX3_takeOut 18 = .ok (.aload_n 0, 1) := by decide +kernel
theorem dX3_takeOut_19 : decode cX3_takeOut 19 = .ok (.iload_n 1, 1) := by decide +kernel
theorem dX3_takeOut_20 : decode cX3_takeOut 20 = .ok (.invokevirtual 103, 3) := by decide +kernel
theorem dX3_takeOut_23 : decode cX3_takeOut 23 = .ok (.return_, 1) := by decide +kernel
theorem dX3_markNeeded_0 : decode cX3_markNeeded 0 = .ok (.iconst 0, 1) := by decide +kernel
theorem dX3_markNeeded_1 : decode cX3_markNeeded 1 = .ok (.istore_n 1, 1) := by decide +kernel
theorem dX3_markNeeded_2 : decode cX3_markNeeded 2 = .ok (.iload_n 1, 1) := by decide +kernel
theorem dX3_markNeeded_3 : decode cX3_markNeeded 3 = .ok (.bipush 18, 2) := by decide +kernel
theorem dX3_markNeeded_5 : decode cX3_markNeeded 5 = .ok (.if_icmp .ge 16, 3) := by decide +kernel
theorem dX3_markNeeded_8 : decode cX3_markNeeded 8 = .ok (.aload_n 0, 1) := by decide +kernel
theorem dX3_markNeeded_9 : decode cX3_markNeeded 9 = .ok (.getfield 33, 3) := by decide +kernel
theorem dX3_markNeeded_12 : decode cX3_markNeeded 12 = .ok (.iload_n 1, 1) := by decide +kernel
theorem dX3_markNeeded_13 : decode cX3_markNeeded 13 = .ok (.iconst 0, 1) := by decide +kernel
theorem dX3_markNeeded_14 : decode cX3_markNeeded 14 = .ok (.bastore, 1) := by decide +kernel
theorem dX3_markNeeded_15 : decode cX3_markNeeded 15 = .ok (.iinc 1 1, 3) := by decide +kernel
theorem dX3_markNeeded_18 : decode cX3_markNeeded 18 = .ok (.goto (-16), 3) := by decide +kernel
theorem dX3_markNeeded_21 : decode cX3_markNeeded 21 = .ok (.aload_n 0, 1) := by decide +kernel
theorem dX3_markNeeded_22 : decode cX3_markNeeded 22 = .ok (.getfield 33, 3) := by decide +kernel
theorem dX3_markNeeded_25 : decode cX3_markNeeded 25 = .ok (.aload_n 0, 1) := by decide +kernel
theorem dX3_markNeeded_26 : decode cX3_markNeeded 26 = .ok (.getfield 26, 3) := by decide +kernel
theorem dX3_markNeeded_29 : decode cX3_markNeeded 29 = .ok (.getfield 87, 3) := by decide +kernel
theorem dX3_markNeeded_32 : decode cX3_markNeeded 32 = .ok (.iconst 1, 1) := by decide +kernel
theorem dX3_markNeeded_33 : decode cX3_markNeeded 33 = .ok (.bastore, 1) := by decide +kernel
theorem dX3_markNeeded_34 : decode cX3_markNeeded 34 = .ok (.aload_n 0, 1) := by decide +kernel
theorem dX3_markNeeded_35 : decode cX3_markNeeded 35 = .ok (.getfield 19, 3) := by decide +kernel
theorem dX3_markNeeded_38 : decode cX3_markNeeded 38 = .ok (.invokevirtual 73, 3) := by decide +kernel
theorem dX3_markNeeded_41 : decode cX3_markNeeded 41 = .ok (.istore_n 1, 1) := by decide +kernel
theorem dX3_markNeeded_42 : decode cX3_markNeeded 42 = .ok (.aload_n 0, 1) := by decide +kernel
theorem dX3_markNeeded_43 : decode cX3_markNeeded 43 = .ok (.getfield 26, 3) := by decide +kernel
theorem dX3_markNeeded_46 : decode cX3_markNeeded 46 = .ok (.getfield 64, 3) := by decide +kernel
theorem dX3_markNeeded_49 : decode cX3_markNeeded 49 = .ok (.iconst 1, 1) := by decide +kernel
theorem dX3_markNeeded_50 : decode cX3_markNeeded 50 = .ok (.isub, 1) := by decide +kernel
theorem dX3_markNeeded_51 : decode cX3_markNeeded 51 = .ok (.istore_n 2, 1) := by decide +kernel
theorem dX3_markNeeded_52 : decode cX3_markNeeded 52 = .ok (.iload_n 2, 1) := by decide +kernel
theorem dX3_markNeeded_53 : decode cX3_markNeeded 53 = .ok (.ifCond .lt 50, 3) := by decide +kernel
theorem dX3_markNeeded_56 : decode cX3_markNeeded 56 = .ok (.aload_n 0, 1) := by decide +kernel
theorem dX3_markNeeded_57 : decode cX3_markNeeded 57 = .ok (.getfield 33, 3) := by decide +kernel
theorem dX3_markNeeded_60 : decode cX3_markNeeded 60 = .ok (.iload_n 1, 1) := by decide +kernel
theorem dX3_markNeeded_61 : decode cX3_markNeeded 61 = .ok (.iload_n 2, 1) := by decide +kernel
theorem dX3_markNeeded_62 : decode cX3_markNeeded 62 = .ok (.iadd, 1) := by decide +kernel
theorem dX3_markNeeded_63 : decode cX3_markNeeded 63 = .ok (.baload, 1) := by decide +kernel
theorem dX3_markNeeded_64 : decode cX3_markNeeded 64 = .ok (.ifCond .eq 33, 3) := by decide +kernel
theorem dX3_markNeeded_67 : decode cX3_markNeeded 67 = .ok (.aload_n 0, 1) := by decide +kernel
theorem dX3_markNeeded_68 : decode cX3_markNeeded 68 = .ok (.getfield 33, 3) := by decide +kernel
theorem dX3_markNeeded_71 : decode cX3_markNeeded 71 = .ok (.aload_n 0, 1) := by decide +kernel
theorem dX3_markNeeded_72 : decode cX3_markNeeded 72 = .ok (.getfield 26, 3) := by decide +kernel
theorem dX3_markNeeded_75 : decode cX3_markNeeded 75 = .ok (.getfield 109, 3) := by decide +kernel
theorem dX3_markNeeded_78 : decode cX3_markNeeded 78 = .ok (.iload_n 2, 1) := by decide +kernel
theorem dX3_markNeeded_79 : decode cX3_markNeeded 79 = .ok (.iaload, 1) := by decide +kernel
theorem dX3_markNeeded_80 : decode cX3_markNeeded 80 = .ok (.iconst 1, 1) := by decide +kernel
theorem dX3_markNeeded_81 : decode cX3_markNeeded 81 = .ok (.bastore, 1) := by decide +kernel
theorem dX3_markNeeded_82 : decode cX3_markNeeded 82 = .ok (.aload_n 0, 1) := by decide +kernel
theorem dX3_markNeeded_83 : decode cX3_markNeeded 83 = .ok (.getfield 33, 3) := by decide +kernel
theorem dX3_markNeeded_86 : decode cX3_markNeeded 86 = .ok (.aload_n 0, 1) := by decide +kernel
theorem dX3_markNeeded_87 : decode cX3_markNeeded 87 = .ok (.getfield 26, 3) := by decide +kernel
theorem dX3_markNeeded_90 : decode cX3_markNeeded 90 = .ok (.getfield 112, 3) := by decide +kernel
theorem dX3_markNeeded_93 : decode cX3_markNeeded 93 = .ok (.iload_n 2, 1) := by decide +kernel
theorem dX3_markNeeded_94 : decode cX3_markNeeded 94 = .ok (.iaload, 1) := by decide +kernel
theorem dX3_markNeeded_95 : decode cX3_markNeeded 95 = .ok (.iconst 1, 1) := by decide +kernel
theorem dX3_markNeeded_96 : decode cX3_markNeeded 96 = .ok (.bastore, 1) := by decide +kernel
theorem dX3_markNeeded_97 : decode cX3_markNeeded 97 = .ok (.iinc 2 (-1), 3) := by decide +kernel
theorem dX3_markNeeded_100 : decode cX3_markNeeded 100 = .ok (.goto (-48), 3) := by decide +kernel
theorem dX3_markNeeded_103 : decode cX3_markNeeded 103 = .ok (.return_, 1) := by decide +kernel
theorem dX4_init_0 : decode cX4_init 0 = .ok (.aload_n 0, 1) := by decide +kernel
theorem dX4_init_1 : decode cX4_init 1 = .ok (.invokespecial 1, 3) := by decide +kernel
theorem dX4_init_4 : decode cX4_init 4 = .ok (.aload_n 0, 1) := by decide +kernel
theorem dX4_init_5 : decode cX4_init 5 = .ok (.iconst 4, 1) := by decide +kernel
theorem dX4_init_6 : decode cX4_init 6 = .ok (.putfield 7, 3) := by decide +kernel
theorem dX4_init_9 : decode cX4_init 9 = .ok (.aload_n 0, 1) := by decide +kernel
theorem dX4_init_10 : decode cX4_init 10 = .ok (.iconst 1, 1) := by decide +kernel
theorem dX4_init_11 : decode cX4_init 11 = .ok (.putfield 13, 3) := by decide +kernel
theorem dX4_init_14 : decode cX4_init 14 = .ok (.aload_n 0, 1) := by decide +kernel
theorem dX4_init_15 : decode cX4_init 15 = .ok (.bipush 15, 2) := by decide +kernel
theorem dX4_init_17 : decode cX4_init 17 = .ok (.putfield 16, 3) := by decide +kernel
theorem dX4_init_20 : decode cX4_init 20 = .ok (.aload_n 0, 1) := by decide +kernel
theorem dX4_init_21 : decode cX4_init 21 = .ok (.bipush 16, 2) := by decide +kernel
theorem dX4_init_23 : decode cX4_init 23 = .ok (.putfield 19, 3) := by decide +kernel
theorem dX4_init_26 : decode cX4_init 26 = .ok (.aload_n 0, 1) := by decide +kernel
theorem dX4_init_27 : decode cX4_init 27 = .ok (.iconst 4, 1) := by decide +kernel
theorem dX4_init_28 : decode cX4_init 28 = .ok (.newarray .int, 2) := by decide +kernel
theorem dX4_init_30 : decode cX4_init 30 = .ok (.putfield 22, 3) := by decide +kernel
theorem dX4_init_33 : decode cX4_init 33 = .ok (.aload_n 0, 1) := by decide +kernel
theorem dX4_init_34 : decode cX4_init 34 = .ok (.bipush 13, 2) := by decide +kernel
theorem dX4_init_36 : decode cX4_init 36 = .ok (.newarray .int, 2) := by decide +kernel
theorem dX4_init_38 : decode cX4_init 38 = .ok (.putfield 26, 3) := by decide +kernel
theorem dX4_init_41 : decode cX4_init 41 = .ok (.aload_n 0, 1) := by decide +kernel
theorem dX4_init_42 : decode cX4_init 42 = .ok (.sipush 256, 3) := by decide +kernel
theorem dX4_init_45 : decode cX4_init 45 = .ok (.newarray .int, 2) := by decide +kernel
theorem dX4_init_47 : decode cX4_init 47 = .ok (.putfield 29, 3) := by decide +kernel
theorem dX4_init_50 : decode cX4_init 50 = .ok (.aload_n 0, 1) := by decide +kernel
theorem dX4_init_51 : decode cX4_init 51 = .ok (.bipush 12, 2) := by decide +kernel
theorem dX4_init_53 : decode cX4_init 53 = .ok (.newarray .int, 2) := by decide +kernel
theorem dX4_init_55 : decode cX4_init 55 = .ok (.putfield 32, 3) := by decide +kernel
theorem dX4_init_58 : decode cX4_init 58 = .ok (.aload_n 0, 1) := by decide +kernel
theorem dX4_init_59 : decode cX4_init 59 = .ok (.bipush 12, 2) := by decide +kernel
theorem dX4_init_61 : decode cX4_init 61 = .ok (.newarray .int, 2) := by decide +kernel
theorem dX4_init_63 : decode cX4_init 63 = .ok (.putfield 35, 3) := by decide +kernel
theorem dX4_init_66 : decode cX4_init 66 = .ok (.aload_n 0, 1) := by decide +kernel
theorem dX4_init_67 : decode cX4_init 67 = .ok (.bipush 12, 2) := by decide +kernel
theorem dX4_init_69 : decode cX4_init 69 = .ok (.newarray .int, 2) := by decide +kernel
theorem dX4_init_71 : decode cX4_init 71 = .ok (.putfield 38, 3) := by decide +kernel
theorem dX4_init_74 : decode cX4_init 74 = .ok (.aload_n 0, 1) := by decide +kernel
theorem dX4_init_75 : decode cX4_init 75 = .ok (.sipush 4608, 3) := by decide +kernel
theorem dX4_init_78 : decode cX4_init 78 = .ok (.newarray .int, 2) := by decide +kernel
theorem dX4_init_80 : decode cX4_init 80 = .ok (.putfield 41, 3) := by decide +kernel
theorem dX4_init_83 : decode cX4_init 83 = .ok (.aload_n 0, 1) := by decide +kernel
theorem dX4_init_84 : decode cX4_init 84 = .ok (.sipush 4608, 3) := by decide +kernel
theorem dX4_init_87 : decode cX4_init 87 = .ok (.newarray .int, 2) := by decide +kernel
theorem dX4_init_89 : decode cX4_init 89 = .ok (.putfield 44, 3) := by decide +kernel
theorem dX4_init_92 : decode cX4_init 92 = .ok (.aload_n 0, 1) := by decide +kernel
theorem dX4_init_93 : decode cX4_init 93 = .ok (.bipush 12, 2) := by decide +kernel
theorem dX4_init_95 : decode cX4_init 95 = .ok (.newarray .int, 2) := by decide +kernel
theorem dX4_init_97 : decode cX4_init 97 = .ok (.putfield 47, 3) := by decide +kernel
theorem dX4_init_100 : decode cX4_init 100 = .ok (.aload_n 0, 1) := by decide +kernel
theorem dX4_init_101 : decode cX4_init 101 = .ok (.bipush 12, 2) := by decide +kernel
theorem dX4_init_103 : decode cX4_init 103 = .ok (.newarray .int, 2) := by decide +kernel
theorem dX4_init_105 : decode cX4_init 105 = .ok (.putfield 50, 3) := by decide +kernel
theorem dX4_init_108 : decode cX4_init 108 = .ok (.aload_n 0, 1) := by decide +kernel
theorem dX4_init_109 : decode cX4_init 109 = .ok (.bipush 12, 2) := by decide +kernel
theorem dX4_init_111 : decode cX4_init 111 = .ok (.newarray .int, 2) := by decide +kernel
theorem dX4_init_113 : decode cX4_init 113 = .ok (.putfield 53, 3) := by decide +kernel
theorem dX4_init_116 : decode cX4_init 116 = .ok (.aload_n 0, 1) := by decide +kernel
theorem dX4_init_117 : decode cX4_init 117 = .ok (.bipush (-3), 2) := by decide +kernel
theorem dX4_init_119 : decode cX4_init 119 = .ok (.putfield 56, 3) := by decide +kernel
theorem dX4_init_122 : decode cX4_init 122 = .ok (.aload_n 0, 1) := by decide +kernel
theorem dX4_init_123 : decode cX4_init 123 = .ok (.bipush 13, 2) := by decide +kernel
theorem dX4_init_125 : decode cX4_init 125 = .ok (.newarray .int, 2) := by decide +kernel
theorem dX4_init_127 : decode cX4_init 127 = .ok (.putfield 59, 3) := by decide +kernel
theorem dX4_init_130 : decode cX4_init 130 = .ok (.aload_n 0, 1) := by decide +kernel
theorem dX4_init_131 : decode cX4_init 131 = .ok (.bipush 13, 2) := by decide +kernel
theorem dX4_init_133 : decode cX4_init 133 = .ok (.newarray .int, 2) := by decide +kernel
theorem dX4_init_135 : decode cX4_init 135 = .ok (.putfield 62, 3) := by decide +kernel
theorem dX4_init_138 : decode cX4_init 138 = .ok (.aload_n 0, 1) := by decide +kernel
theorem dX4_init_139 : decode cX4_init 139 = .ok (.bipush 13, 2) := by decide +kernel
theorem dX4_init_141 : decode cX4_init 141 = .ok (.newarray .int, 2) := by decide +kernel
theorem dX4_init_143 : decode cX4_init 143 = .ok (.putfield 65, 3) := by decide +kernel
theorem dX4_init_146 : decode cX4_init 146 = .ok (.aload_n 0, 1) := by decide +kernel
theorem dX4_init_147 : decode cX4_init 147 = .ok (.bipush 13, 2) := by decide +kernel
theorem dX4_init_149 : decode cX4_init 149 = .ok (.newarray .int, 2) := by decide +kernel
theorem dX4_init_151 : decode cX4_init 151 = .ok (.putfield 68, 3) := by decide +kernel
theorem dX4_init_154 : decode cX4_init 154 = .ok (.aload_n 0, 1) := by decide +kernel
theorem dX4_init_155 : decode cX4_init 155 = .ok (.bipush 12, 2) := by decide +kernel
theorem dX4_init_157 : decode cX4_init 157 = .ok (.newarray .int, 2) := by decide +kernel
theorem dX4_init_159 : decode cX4_init 159 = .ok (.putfield 71, 3) := by decide +kernel
theorem dX4_init_162 : decode cX4_init 162 = .ok (.aload_n 0, 1) := by decide +kernel
theorem dX4_init_163 : decode cX4_init 163 = .ok (.bipush 12, 2) := by decide +kernel
theorem dX4_init_165 : decode cX4_init 165 = .ok (.newarray .int, 2) := by decide +kernel
theorem dX4_init_167 : decode cX4_init 167 = .ok (.putfield 74, 3) := by decide +kernel
theorem dX4_init_170 : decode cX4_init 170 = .ok (.aload_n 0, 1) := by decide +kernel
theorem dX4_init_171 : decode cX4_init 171 = .ok (.bipush 12, 2) := by decide +kernel
theorem dX4_init_173 : decode cX4_init 173 = .ok (.newarray .int, 2) := by decide +kernel
theorem dX4_init_175 : decode cX4_init 175 = .ok (.putfield 77, 3) := by decide +kernel
theorem dX4_init_178 : decode cX4_init 178 = .ok (.iconst 0, 1) := by decide +kernel
theorem dX4_init_179 : decode cX4_init 179 = .ok (.istore_n 1, 1) := by decide +kernel
theorem dX4_init_180 : decode cX4_init 180 = .ok (.iload_n 1, 1) := by decide +kernel
theorem dX4_init_181 : decode cX4_init 181 = .ok (.bipush 13, 2) := by decide +kernel
theorem dX4_init_183 : decode cX4_init 183 = .ok (.if_icmp .ge 16, 3) := by decide +kernel
theorem dX4_init_186 : decode cX4_init 186 = .ok (.aload_n 0, 1) := by decide +kernel
theorem dX4_init_187 : decode cX4_init 187 = .ok (.getfield 26, 3) := by decide +kernel
theorem dX4_init_190 : decode cX4_init 190 = .ok (.iload_n 1, 1) := by decide +kernel
theorem dX4_init_191 : decode cX4_init 191 = .ok (.iconst 1, 1) := by decide +kernel
theorem dX4_init_192 : decode cX4_init 192 = .ok (.iastore, 1) := by decide +kernel
theorem dX4_init_193 : decode cX4_init 193 = .ok (.iinc 1 1, 3) := by decide +kernel
theorem dX4_init_196 : decode cX4_init 196 = .ok (.goto (-16), 3) := by decide +kernel
theorem dX4_init_199 : decode cX4_init 199 = .ok (.aload_n 0, 1) := by decide +kernel
theorem dX4_init_200 : decode cX4_init 200 = .ok (.invokevirtual 80, 3) := by decide +kernel
theorem dX4_init_203 : decode cX4_init 203 = .ok (.return_, 1) := by decide +kernel
theorem dX4_within_0 : decode cX4_within 0 = .ok (.iload_n 0, 1) := by decide +kernel
theorem dX4_within_1 : decode cX4_within 1 = .ok (.iload_n 1, 1) := by decide +kernel
theorem dX4_within_2 : decode cX4_within 2 = .ok (.if_icmp .lt 12, 3) := by decide +kernel
theorem dX4_within_5 : decode cX4_within 5 = .ok (.iload_n 0, 1) := by decide +kernel
theorem dX4_within_6 : decode cX4_within 6 = .ok (.iload_n 2, 1) := by decide +kernel
theorem dX4_within_7 : decode cX4_within 7 = .ok (.if_icmp .gt 7, 3) := by decide +kernel
theorem dX4_within_10 : decode cX4_within 10 = .ok (.iconst 1, 1) := by decide +kernel
theorem dX4_within_11 : decode cX4_within 11 = .ok (.goto 4, 3) := by decide +kernel
theorem dX4_within_14 : decode cX4_within 14 = .ok (.iconst 0, 1) := by decide +kernel
theorem dX4_within_15 : decode cX4_within 15 = .ok (.ireturn, 1) := by decide +kernel
theorem dX4_firsts_0 : decode cX4_firsts 0 = .ok (.aload_n 0, 1) := by decide +kernel
theorem dX4_firsts_1 : decode cX4_firsts 1 = .ok (.getfield 13, 3) := by decide +kernel
theorem dX4_firsts_4 : decode cX4_firsts 4 = .ok (.aload_n 0, 1) := by decide +kernel
theorem dX4_firsts_5 : decode cX4_firsts 5 = .ok (.getfield 83, 3) := by decide +kernel
theorem dX4_firsts_8 : decode cX4_firsts 8 = .ok (.iadd, 1) := by decide +kernel
theorem dX4_firsts_9 : decode cX4_firsts 9 = .ok (.ireturn, 1) := by decide +kernel
theorem dX4_all_0 : decode cX4_all 0 = .ok (.aload_n 0, 1) := by decide +kernel
theorem dX4_all_1 : decode cX4_all 1 = .ok (.invokevirtual 86, 3) := by decide +kernel
theorem dX4_all_4 : decode cX4_all 4 = .ok (.aload_n 0, 1) := by decide +kernel
theorem dX4_all_5 : decode cX4_all 5 = .ok (.getfield 90, 3) := by decide +kernel
theorem dX4_all_8 : decode cX4_all 8 = .ok (.iadd, 1) := by decide +kernel
theorem dX4_all_9 : decode cX4_all 9 = .ok (.ireturn, 1) := by decide +kernel
theorem dX4_reckon_0 : decode cX4_reckon 0 = .ok (.iload_n 3, 1) := by decide +kernel
theorem dX4_reckon_1 : decode cX4_reckon 1 = .ok (.aload_n 0, 1) := by decide +kernel
theorem dX4_reckon_2 : decode cX4_reckon 2 = .ok (.getfield 7, 3) := by decide +kernel
theorem dX4_reckon_5 : decode cX4_reckon 5 = .ok (.irem, 1) := by decide +kernel
theorem dX4_reckon_6 : decode cX4_reckon 6 = .ok (.istore 4, 2) := by decide +kernel
theorem dX4_reckon_8 : decode cX4_reckon 8 = .ok (.iload_n 2, 1) := by decide +kernel
theorem dX4_reckon_9 : decode cX4_reckon 9 = .ok (.aload_n 0, 1) := by decide +kernel
theorem dX4_reckon_10 : decode cX4_reckon 10 = .ok (.getfield 7, 3) := by decide +kernel
theorem dX4_reckon_13 : decode cX4_reckon 13 = .ok (.iconst 1, 1) := by decide +kernel
theorem dX4_reckon_14 : decode cX4_reckon 14 = .ok (.isub, 1) := by decide +kernel
theorem dX4_reckon_15 : decode cX4_reckon 15 = .ok (.ishr, 1) := by decide +kernel
theorem dX4_reckon_16 : decode cX4_reckon 16 = .ok (.iconst 1, 1) := by decide +kernel
theorem dX4_reckon_17 : decode cX4_reckon 17 = .ok (.iand, 1) := by decide +kernel
theorem dX4_reckon_18 : decode cX4_reckon 18 = .ok (.istore 5, 2) := by decide +kernel
theorem dX4_reckon_20 : decode cX4_reckon 20 = .ok (.iload_n 1, 1) := by decide +kernel
theorem dX4_reckon_21 : decode cX4_reckon 21 = .ok (.tableswitch 172 0 11 #[63, 72, 80, 84, 88, 92, 101, 110, 119, 129, 134, 161], 63) := by decide +kernel
theorem dX4_reckon_84 : decode cX4_reckon 84 = .ok (.iload_n 2, 1) := by decide +kernel
theorem dX4_reckon_85 : decode cX4_reckon 85 = .ok (.iconst (-1), 1) := by decide +kernel
theorem dX4_reckon_86 : decode cX4_reckon 86 = .ok (.ixor, 1) := by decide +kernel
theorem dX4_reckon_87 : decode cX4_reckon 87 = .ok (.aload_n 0, 1) := by decide +kernel
theorem dX4_reckon_88 : decode cX4_reckon 88 = .ok (.getfield 16, 3) := by decide +kernel
theorem dX4_reckon_91 : decode cX4_reckon 91 = .ok (.iand, 1) := by decide +kernel
theorem dX4_reckon_92 : decode cX4_reckon 92 = .ok (.ireturn, 1) := by decide +kernel
theorem dX4_reckon_93 : decode cX4_reckon 93 = .ok (.iload_n 2, 1) := by decide +kernel
theorem dX4_reckon_94 : decode cX4_reckon 94 = .ok (.ineg, 1) := by decide +kernel
theorem dX4_reckon_95 : decode cX4_reckon 95 = .ok (.aload_n 0, 1) := by decide +kernel
theorem dX4_reckon_96 : decode cX4_reckon 96 = .ok (.getfield 16, 3) := by decide +kernel
theorem dX4_reckon_99 : decode cX4_reckon 99 = .ok (.iand, 1) := by decide +kernel
theorem dX4_reckon_100 : decode cX4_reckon 100 = .ok (.ireturn, 1) := by decide +kernel
theorem dX4_reckon_101 : decode cX4_reckon 101 = .ok (.iload_n 2, 1) := by decide +kernel
theorem dX4_reckon_102 : decode cX4_reckon 102 = .ok (.iload_n 3, 1) := by decide +kernel
theorem dX4_reckon_103 : decode cX4_reckon 103 = .ok (.iand, 1) := by decide +kernel
theorem dX4_reckon_104 : decode cX4_reckon 104 = .ok (.ireturn, 1) := by decide +kernel
theorem dX4_reckon_105 : decode cX4_reckon 105 = .ok (.iload_n 2, 1) := by decide +kernel
theorem dX4_reckon_106 : decode cX4_reckon 106 = .ok (.iload_n 3, 1) := by decide +kernel
theorem dX4_reckon_107 : decode cX4_reckon 107 = .ok (.ior, 1) := by decide +kernel
theorem dX4_reckon_108 : decode cX4_reckon 108 = .ok (.ireturn, 1) := by decide +kernel
theorem dX4_reckon_109 : decode cX4_reckon 109 = .ok (.iload_n 2, 1) := by decide +kernel
theorem dX4_reckon_110 : decode cX4_reckon 110 = .ok (.iload_n 3, 1) := by decide +kernel
theorem dX4_reckon_111 : decode cX4_reckon 111 = .ok (.ixor, 1) := by decide +kernel
theorem dX4_reckon_112 : decode cX4_reckon 112 = .ok (.ireturn, 1) := by decide +kernel
theorem dX4_reckon_113 : decode cX4_reckon 113 = .ok (.iload_n 2, 1) := by decide +kernel
theorem dX4_reckon_114 : decode cX4_reckon 114 = .ok (.iload_n 3, 1) := by decide +kernel
theorem dX4_reckon_115 : decode cX4_reckon 115 = .ok (.iadd, 1) := by decide +kernel
theorem dX4_reckon_116 : decode cX4_reckon 116 = .ok (.aload_n 0, 1) := by decide +kernel
theorem dX4_reckon_117 : decode cX4_reckon 117 = .ok (.getfield 16, 3) := by decide +kernel
theorem dX4_reckon_120 : decode cX4_reckon 120 = .ok (.iand, 1) := by decide +kernel
theorem dX4_reckon_121 : decode cX4_reckon 121 = .ok (.ireturn, 1) := by decide +kernel
theorem dX4_reckon_122 : decode cX4_reckon 122 = .ok (.iload_n 2, 1) := by decide +kernel
theorem dX4_reckon_123 : decode cX4_reckon 123 = .ok (.iload_n 3, 1) := by decide +kernel
theorem dX4_reckon_124 : decode cX4_reckon 124 = .ok (.isub, 1) := by decide +kernel
theorem dX4_reckon_125 : decode cX4_reckon 125 = .ok (.aload_n 0, 1) := by decide +kernel
theorem dX4_reckon_126 : decode cX4_reckon 126 = .ok (.getfield 16, 3) := by decide +kernel
theorem dX4_reckon_129 : decode cX4_reckon 129 = .ok (.iand, 1) := by decide +kernel
theorem dX4_reckon_130 : decode cX4_reckon 130 = .ok (.ireturn, 1) := by decide +kernel
theorem dX4_reckon_131 : decode cX4_reckon 131 = .ok (.iload_n 2, 1) := by decide +kernel
theorem dX4_reckon_132 : decode cX4_reckon 132 = .ok (.iload_n 3, 1) := by decide +kernel
theorem dX4_reckon_133 : decode cX4_reckon 133 = .ok (.imul, 1) := by decide +kernel
theorem dX4_reckon_134 : decode cX4_reckon 134 = .ok (.aload_n 0, 1) := by decide +kernel
theorem dX4_reckon_135 : decode cX4_reckon 135 = .ok (.getfield 16, 3) := by decide +kernel
theorem dX4_reckon_138 : decode cX4_reckon 138 = .ok (.iand, 1) := by decide +kernel
theorem dX4_reckon_139 : decode cX4_reckon 139 = .ok (.ireturn, 1) := by decide +kernel
theorem dX4_reckon_140 : decode cX4_reckon 140 = .ok (.iload_n 2, 1) := by decide +kernel
theorem dX4_reckon_141 : decode cX4_reckon 141 = .ok (.iload 4, 2) := by decide +kernel
theorem dX4_reckon_143 : decode cX4_reckon 143 = .ok (.ishl, 1) := by decide +kernel
theorem dX4_reckon_144 : decode cX4_reckon 144 = .ok (.aload_n 0, 1) := by decide +kernel
theorem dX4_reckon_145 : decode cX4_reckon 145 = .ok (.getfield 16, 3) := by decide +kernel
theorem dX4_reckon_148 : decode cX4_reckon 148 = .ok (.iand, 1) := by decide +kernel
theorem dX4_reckon_149 : decode cX4_reckon 149 = .ok (.ireturn, 1) := by decide +kernel
theorem dX4_reckon_150 : decode cX4_reckon 150 = .ok (.iload_n 2, 1) := by decide +kernel
theorem dX4_reckon_151 : decode cX4_reckon 151 = .ok (.iload 4, 2) := by decide +kernel
theorem dX4_reckon_153 : decode cX4_reckon 153 = .ok (.ishr, 1) := by decide +kernel
theorem dX4_reckon_154 : decode cX4_reckon 154 = .ok (.ireturn, 1) := by decide +kernel
theorem dX4_reckon_155 : decode cX4_reckon 155 = .ok (.iload_n 2, 1) := by decide +kernel
theorem dX4_reckon_156 : decode cX4_reckon 156 = .ok (.iload 5, 2) := by decide +kernel
theorem dX4_reckon_158 : decode cX4_reckon 158 = .ok (.iconst 1, 1) := by decide +kernel
theorem dX4_reckon_159 : decode cX4_reckon 159 = .ok (.if_icmp .ne 12, 3) := by decide +kernel
theorem dX4_reckon_162 : decode cX4_reckon 162 = .ok (.aload_n 0, 1) := by decide +kernel
theorem dX4_reckon_163 : decode cX4_reckon 163 = .ok (.getfield 16, 3) := by decide +kernel
theorem dX4_reckon_166 : decode cX4_reckon 166 = .ok (.iconst (-1), 1) := by decide +kernel
theorem dX4_reckon_167 : decode cX4_reckon 167 = .ok (.ixor, 1) := by decide +kernel
theorem dX4_reckon_168 : decode cX4_reckon 168 = .ok (.goto 4, 3) := by decide +kernel
theorem dX4_reckon_171 : decode cX4_reckon 171 = .ok (.iconst 0, 1) := by decide +kernel
theorem dX4_reckon_172 : decode cX4_reckon 172 = .ok (.ior, 1) := by decide +kernel
theorem dX4_reckon_173 : decode cX4_reckon 173 = .ok (.iload 4, 2) := by decide +kernel
theorem dX4_reckon_175 : decode cX4_reckon 175 = .ok (.ishr, 1) := by decide +kernel
theorem dX4_reckon_176 : decode cX4_reckon 176 = .ok (.aload_n 0, 1) := by decide +kernel
theorem dX4_reckon_177 : decode cX4_reckon 177 = .ok (.getfield 16, 3) := by decide +kernel
theorem dX4_reckon_180 : decode cX4_reckon 180 = .ok (.iand, 1) := by decide +kernel
theorem dX4_reckon_181 : decode cX4_reckon 181 = .ok (.ireturn, 1) := by decide +kernel
theorem dX4_reckon_182 : decode cX4_reckon 182 = .ok (.iload_n 2, 1) := by decide +kernel
theorem dX4_reckon_183 : decode cX4_reckon 183 = .ok (.iload_n 3, 1) := by decide +kernel
theorem dX4_reckon_184 : decode cX4_reckon 184 = .ok (.if_icmp .ge 7, 3) := by decide +kernel
theorem dX4_reckon_187 : decode cX4_reckon 187 = .ok (.iconst 1, 1) := by decide +kernel
theorem dX4_reckon_188 : decode cX4_reckon 188 = .ok (.goto 4, 3) := by decide +kernel
theorem dX4_reckon_191 : decode cX4_reckon 191 = .ok (.iconst 0, 1) := by decide +kernel
theorem dX4_reckon_192 : decode cX4_reckon 192 = .ok (.ireturn, 1) := by decide +kernel
theorem dX4_reckon_193 : decode cX4_reckon 193 = .ok (.iload_n 2, 1) := by decide +kernel
theorem dX4_reckon_194 : decode cX4_reckon 194 = .ok (.iload_n 3, 1) := by decide +kernel
theorem dX4_reckon_195 : decode cX4_reckon 195 = .ok (.if_icmp .ne 7, 3) := by decide +kernel
theorem dX4_reckon_198 : decode cX4_reckon 198 = .ok (.iconst 1, 1) := by decide +kernel
theorem dX4_reckon_199 : decode cX4_reckon 199 = .ok (.goto 4, 3) := by decide +kernel
theorem dX4_reckon_202 : decode cX4_reckon 202 = .ok (.iconst 0, 1) := by decide +kernel
theorem dX4_reckon_203 : decode cX4_reckon 203 = .ok (.ireturn, 1) := by decide +kernel
theorem dX4_layFirsts_0 : decode cX4_layFirsts 0 = .ok (.iconst 0, 1) := by decide +kernel
theorem dX4_layFirsts_1 : decode cX4_layFirsts 1 = .ok (.istore_n 2, 1) := by decide +kernel
theorem dX4_layFirsts_2 : decode cX4_layFirsts 2 = .ok (.iload_n 2, 1) := by decide +kernel
theorem dX4_layFirsts_3 : decode cX4_layFirsts 3 = .ok (.aload_n 0, 1) := by decide +kernel
theorem dX4_layFirsts_4 : decode cX4_layFirsts 4 = .ok (.getfield 19, 3) := by decide +kernel
theorem dX4_layFirsts_7 : decode cX4_layFirsts 7 = .ok (.if_icmp .ge 83, 3) := by decide +kernel
theorem dX4_layFirsts_10 : decode cX4_layFirsts 10 = .ok (.iconst 0, 1) := by decide +kernel
theorem dX4_layFirsts_11 : decode cX4_layFirsts 11 = .ok (.istore_n 3, 1) := by decide +kernel
theorem dX4_layFirsts_12 : decode cX4_layFirsts 12 = .ok (.iload_n 3, 1) := by decide +kernel
theorem dX4_layFirsts_13 : decode cX4_layFirsts 13 = .ok (.aload_n 0, 1) := by decide +kernel
theorem dX4_layFirsts_14 : decode cX4_layFirsts 14 = .ok (.getfield 13, 3) := by decide +kernel
theorem dX4_layFirsts_17 : decode cX4_layFirsts 17 = .ok (.if_icmp .ge 31, 3) := by decide +kernel
theorem dX4_layFirsts_20 : decode cX4_layFirsts 20 = .ok (.aload_n 1, 1) := by decide +kernel
theorem dX4_layFirsts_21 : decode cX4_layFirsts 21 = .ok (.sipush 256, 3) := by decide +kernel
theorem dX4_layFirsts_24 : decode cX4_layFirsts 24 = .ok (.iload_n 3, 1) := by decide +kernel
theorem dX4_layFirsts_25 : decode cX4_layFirsts 25 = .ok (.imul, 1) := by decide +kernel
theorem dX4_layFirsts_26 : decode cX4_layFirsts 26 = .ok (.iload_n 2, 1) := by decide +kernel
theorem dX4_layFirsts_27 : decode cX4_layFirsts 27 = .ok (.iadd, 1) := by decide +kernel
theorem dX4_layFirsts_28 : decode cX4_layFirsts 28 = .ok (.iload_n 2, 1) := by decide +kernel
theorem dX4_layFirsts_29 : decode cX4_layFirsts 29 = .ok (.aload_n 0, 1) := by decide +kernel
theorem dX4_layFirsts_30 : decode cX4_layFirsts 30 = .ok (.getfield 7, 3) := by decide +kernel
theorem dX4_layFirsts_33 : decode cX4_layFirsts 33 = .ok (.iload_n 3, 1) := by decide +kernel
theorem dX4_layFirsts_34 : decode cX4_layFirsts 34 = .ok (.imul, 1) := by decide +kernel
theorem dX4_layFirsts_35 : decode cX4_layFirsts 35 = .ok (.ishr, 1) := by decide +kernel
theorem dX4_layFirsts_36 : decode cX4_layFirsts 36 = .ok (.aload_n 0, 1) := by decide +kernel
theorem dX4_layFirsts_37 : decode cX4_layFirsts 37 = .ok (.getfield 16, 3) := by decide +kernel
theorem dX4_layFirsts_40 : decode cX4_layFirsts 40 = .ok (.iand, 1) := by decide +kernel
theorem dX4_layFirsts_41 : decode cX4_layFirsts 41 = .ok (.iastore, 1) := by decide +kernel
theorem dX4_layFirsts_42 : decode cX4_layFirsts 42 = .ok (.iinc 3 1, 3) := by decide +kernel
theorem dX4_layFirsts_45 : decode cX4_layFirsts 45 = .ok (.goto (-33), 3) := by decide +kernel
theorem dX4_layFirsts_48 : decode cX4_layFirsts 48 = .ok (.iconst 0, 1) := by decide +kernel
theorem dX4_layFirsts_49 : decode cX4_layFirsts 49 = .ok (.istore_n 3, 1) := by decide +kernel
theorem dX4_layFirsts_50 : decode cX4_layFirsts 50 = .ok (.iload_n 3, 1) := by decide +kernel
theorem dX4_layFirsts_51 : decode cX4_layFirsts 51 = .ok (.aload_n 0, 1) := by decide +kernel
theorem dX4_layFirsts_52 : decode cX4_layFirsts 52 = .ok (.getfield 83, 3) := by decide +kernel
theorem dX4_layFirsts_55 : decode cX4_layFirsts 55 = .ok (.if_icmp .ge 29, 3) := by decide +kernel
theorem dX4_layFirsts_58 : decode cX4_layFirsts 58 = .ok (.aload_n 1, 1) := by decide +kernel
theorem dX4_layFirsts_59 : decode cX4_layFirsts 59 = .ok (.sipush 256, 3) := by decide +kernel
theorem dX4_layFirsts_62 : decode cX4_layFirsts 62 = .ok (.aload_n 0, 1) := by decide +kernel
theorem dX4_layFirsts_63 : decode cX4_layFirsts 63 = .ok (.getfield 13, 3) := by decide +kernel
theorem dX4_layFirsts_66 : decode cX4_layFirsts 66 = .ok (.iload_n 3, 1) := by decide +kernel
