theorem dX4_advance_133 : decode cX4_advance 133 = .ok (.iaload, 1) := by decide +kernel
theorem dX4_advance_134 : decode cX4_advance 134 = .ok (.iaload, 1) := by decide +kernel
theorem dX4_advance_135 : decode cX4_advance 135 = .ok (.ifCond .eq 23, 3) := by decide +kernel
theorem dX4_advance_138 : decode cX4_advance 138 = .ok (.aload_n 0, 1) := by decide +kernel
theorem dX4_advance_139 : decode cX4_advance 139 = .ok (.getfield 26, 3) := by decide +kernel
theorem dX4_advance_142 : decode cX4_advance 142 = .ok (.aload_n 0, 1) := by decide +kernel
theorem dX4_advance_143 : decode cX4_advance 143 = .ok (.getfield 59, 3) := by decide +kernel
theorem dX4_advance_146 : decode cX4_advance 146 = .ok (.iload_n 1, 1) := by decide +kernel
theorem dX4_advance_147 : decode cX4_advance 147 = .ok (.iaload, 1) := by decide +kernel
theorem dX4_advance_148 : decode cX4_advance 148 = .ok (.iaload, 1) := by decide +kernel
theorem dX4_advance_149 : decode cX4_advance 149 = .ok (.aload_n 0, 1) := by decide +kernel
theorem dX4_advance_150 : decode cX4_advance 150 = .ok (.getfield 68, 3) := by decide +kernel
theorem dX4_advance_153 : decode cX4_advance 153 = .ok (.iload_n 1, 1) := by decide +kernel
theorem dX4_advance_154 : decode cX4_advance 154 = .ok (.iaload, 1) := by decide +kernel
theorem dX4_advance_155 : decode cX4_advance 155 = .ok (.if_icmp .le 30, 3) := by decide +kernel
theorem dX4_advance_158 : decode cX4_advance 158 = .ok (.aload_n 0, 1) := by decide +kernel
theorem dX4_advance_159 : decode cX4_advance 159 = .ok (.getfield 59, 3) := by decide +kernel
theorem dX4_advance_162 : decode cX4_advance 162 = .ok (.iload_n 1, 1) := by decide +kernel
theorem dX4_advance_163 : decode cX4_advance 163 = .ok (.dup2, 1) := by decide +kernel
theorem dX4_advance_164 : decode cX4_advance 164 = .ok (.iaload, 1) := by decide +kernel
theorem dX4_advance_165 : decode cX4_advance 165 = .ok (.iconst 1, 1) := by decide +kernel
theorem dX4_advance_166 : decode cX4_advance 166 = .ok (.iadd, 1) := by decide +kernel
theorem dX4_advance_167 : decode cX4_advance 167 = .ok (.iastore, 1) := by decide +kernel
theorem dX4_advance_168 : decode cX4_advance 168 = .ok (.aload_n 0, 1) := by decide +kernel
theorem dX4_advance_169 : decode cX4_advance 169 = .ok (.getfield 62, 3) := by decide +kernel
theorem dX4_advance_172 : decode cX4_advance 172 = .ok (.iload_n 1, 1) := by decide +kernel
theorem dX4_advance_173 : decode cX4_advance 173 = .ok (.iconst 0, 1) := by decide +kernel
theorem dX4_advance_174 : decode cX4_advance 174 = .ok (.iastore, 1) := by decide +kernel
theorem dX4_advance_175 : decode cX4_advance 175 = .ok (.aload_n 0, 1) := by decide +kernel
theorem dX4_advance_176 : decode cX4_advance 176 = .ok (.getfield 65, 3) := by decide +kernel
theorem dX4_advance_179 : decode cX4_advance 179 = .ok (.iload_n 1, 1) := by decide +kernel
theorem dX4_advance_180 : decode cX4_advance 180 = .ok (.iconst 0, 1) := by decide +kernel
theorem dX4_advance_181 : decode cX4_advance 181 = .ok (.iastore, 1) := by decide +kernel
theorem dX4_advance_182 : decode cX4_advance 182 = .ok (.goto (-88), 3) := by decide +kernel
theorem dX4_advance_185 : decode cX4_advance 185 = .ok (.aload_n 0, 1) := by decide +kernel
theorem dX4_advance_186 : decode cX4_advance 186 = .ok (.getfield 59, 3) := by decide +kernel
theorem dX4_advance_189 : decode cX4_advance 189 = .ok (.iload_n 1, 1) := by decide +kernel
theorem dX4_advance_190 : decode cX4_advance 190 = .ok (.iaload, 1) := by decide +kernel
theorem dX4_advance_191 : decode cX4_advance 191 = .ok (.bipush 13, 2) := by decide +kernel
theorem dX4_advance_193 : decode cX4_advance 193 = .ok (.if_icmp .ge 7, 3) := by decide +kernel
theorem dX4_advance_196 : decode cX4_advance 196 = .ok (.iconst 1, 1) := by decide +kernel
theorem dX4_advance_197 : decode cX4_advance 197 = .ok (.goto 4, 3) := by decide +kernel
theorem dX4_advance_200 : decode cX4_advance 200 = .ok (.iconst 0, 1) := by decide +kernel
theorem dX4_advance_201 : decode cX4_advance 201 = .ok (.ireturn, 1) := by decide +kernel
theorem dX4_open_0 : decode cX4_open 0 = .ok (.aload_n 0, 1) := by decide +kernel
theorem dX4_open_1 : decode cX4_open 1 = .ok (.getfield 68, 3) := by decide +kernel
theorem dX4_open_4 : decode cX4_open 4 = .ok (.iload_n 1, 1) := by decide +kernel
theorem dX4_open_5 : decode cX4_open 5 = .ok (.iload_n 2, 1) := by decide +kernel
theorem dX4_open_6 : decode cX4_open 6 = .ok (.iastore, 1) := by decide +kernel
theorem dX4_open_7 : decode cX4_open 7 = .ok (.aload_n 0, 1) := by decide +kernel
theorem dX4_open_8 : decode cX4_open 8 = .ok (.getfield 59, 3) := by decide +kernel
theorem dX4_open_11 : decode cX4_open 11 = .ok (.iload_n 1, 1) := by decide +kernel
theorem dX4_open_12 : decode cX4_open 12 = .ok (.iconst (-1), 1) := by decide +kernel
theorem dX4_open_13 : decode cX4_open 13 = .ok (.iastore, 1) := by decide +kernel
theorem dX4_open_14 : decode cX4_open 14 = .ok (.aload_n 0, 1) := by decide +kernel
theorem dX4_open_15 : decode cX4_open 15 = .ok (.getfield 62, 3) := by decide +kernel
theorem dX4_open_18 : decode cX4_open 18 = .ok (.iload_n 1, 1) := by decide +kernel
theorem dX4_open_19 : decode cX4_open 19 = .ok (.iconst 0, 1) := by decide +kernel
theorem dX4_open_20 : decode cX4_open 20 = .ok (.iastore, 1) := by decide +kernel
theorem dX4_open_21 : decode cX4_open 21 = .ok (.aload_n 0, 1) := by decide +kernel
theorem dX4_open_22 : decode cX4_open 22 = .ok (.getfield 65, 3) := by decide +kernel
theorem dX4_open_25 : decode cX4_open 25 = .ok (.iload_n 1, 1) := by decide +kernel
theorem dX4_open_26 : decode cX4_open 26 = .ok (.iconst (-1), 1) := by decide +kernel
theorem dX4_open_27 : decode cX4_open 27 = .ok (.iastore, 1) := by decide +kernel
theorem dX4_open_28 : decode cX4_open 28 = .ok (.return_, 1) := by decide +kernel
theorem dX4_isTarget_0 : decode cX4_isTarget 0 = .ok (.iconst 0, 1) := by decide +kernel
theorem dX4_isTarget_1 : decode cX4_isTarget 1 = .ok (.istore_n 2, 1) := by decide +kernel
theorem dX4_isTarget_2 : decode cX4_isTarget 2 = .ok (.iload_n 2, 1) := by decide +kernel
theorem dX4_isTarget_3 : decode cX4_isTarget 3 = .ok (.aload_n 0, 1) := by decide +kernel
theorem dX4_isTarget_4 : decode cX4_isTarget 4 = .ok (.getfield 19, 3) := by decide +kernel
theorem dX4_isTarget_7 : decode cX4_isTarget 7 = .ok (.if_icmp .ge 32, 3) := by decide +kernel
theorem dX4_isTarget_10 : decode cX4_isTarget 10 = .ok (.aload_n 0, 1) := by decide +kernel
theorem dX4_isTarget_11 : decode cX4_isTarget 11 = .ok (.getfield 44, 3) := by decide +kernel
theorem dX4_isTarget_14 : decode cX4_isTarget 14 = .ok (.sipush 256, 3) := by decide +kernel
theorem dX4_isTarget_17 : decode cX4_isTarget 17 = .ok (.iload_n 1, 1) := by decide +kernel
theorem dX4_isTarget_18 : decode cX4_isTarget 18 = .ok (.imul, 1) := by decide +kernel
theorem dX4_isTarget_19 : decode cX4_isTarget 19 = .ok (.iload_n 2, 1) := by decide +kernel
theorem dX4_isTarget_20 : decode cX4_isTarget 20 = .ok (.iadd, 1) := by decide +kernel
theorem dX4_isTarget_21 : decode cX4_isTarget 21 = .ok (.iaload, 1) := by decide +kernel
theorem dX4_isTarget_22 : decode cX4_isTarget 22 = .ok (.aload_n 0, 1) := by decide +kernel
theorem dX4_isTarget_23 : decode cX4_isTarget 23 = .ok (.getfield 29, 3) := by decide +kernel
theorem dX4_isTarget_26 : decode cX4_isTarget 26 = .ok (.iload_n 2, 1) := by decide +kernel
theorem dX4_isTarget_27 : decode cX4_isTarget 27 = .ok (.iaload, 1) := by decide +kernel
theorem dX4_isTarget_28 : decode cX4_isTarget 28 = .ok (.if_icmp .eq 5, 3) := by decide +kernel
theorem dX4_isTarget_31 : decode cX4_isTarget 31 = .ok (.iconst 0, 1) := by decide +kernel
theorem dX4_isTarget_32 : decode cX4_isTarget 32 = .ok (.ireturn, 1) := by decide +kernel
theorem dX4_isTarget_33 : decode cX4_isTarget 33 = .ok (.iinc 2 1, 3) := by decide +kernel
theorem dX4_isTarget_36 : decode cX4_isTarget 36 = .ok (.goto (-34), 3) := by decide +kernel
theorem dX4_isTarget_39 : decode cX4_isTarget 39 = .ok (.iconst 1, 1) := by decide +kernel
theorem dX4_isTarget_40 : decode cX4_isTarget 40 = .ok (.ireturn, 1) := by decide +kernel
theorem dX4_isNew_0 : decode cX4_isNew 0 = .ok (.iconst 0, 1) := by decide +kernel
theorem dX4_isNew_1 : decode cX4_isNew 1 = .ok (.istore_n 2, 1) := by decide +kernel
theorem dX4_isNew_2 : decode cX4_isNew 2 = .ok (.iload_n 2, 1) := by decide +kernel
theorem dX4_isNew_3 : decode cX4_isNew 3 = .ok (.iload_n 1, 1) := by decide +kernel
theorem dX4_isNew_4 : decode cX4_isNew 4 = .ok (.if_icmp .ge 27, 3) := by decide +kernel
theorem dX4_isNew_7 : decode cX4_isNew 7 = .ok (.aload_n 0, 1) := by decide +kernel
theorem dX4_isNew_8 : decode cX4_isNew 8 = .ok (.getfield 44, 3) := by decide +kernel
theorem dX4_isNew_11 : decode cX4_isNew 11 = .ok (.iload_n 1, 1) := by decide +kernel
theorem dX4_isNew_12 : decode cX4_isNew 12 = .ok (.iload_n 2, 1) := by decide +kernel
theorem dX4_isNew_13 : decode cX4_isNew 13 = .ok (.aload_n 0, 1) := by decide +kernel
theorem dX4_isNew_14 : decode cX4_isNew 14 = .ok (.getfield 19, 3) := by decide +kernel
theorem dX4_isNew_17 : decode cX4_isNew 17 = .ok (.invokestatic 122, 3) := by decide +kernel
theorem dX4_isNew_20 : decode cX4_isNew 20 = .ok (.ifCond .eq 5, 3) := by decide +kernel
theorem dX4_isNew_23 : decode cX4_isNew 23 = .ok (.iconst 0, 1) := by decide +kernel
theorem dX4_isNew_24 : decode cX4_isNew 24 = .ok (.ireturn, 1) := by decide +kernel
theorem dX4_isNew_25 : decode cX4_isNew 25 = .ok (.iinc 2 1, 3) := by decide +kernel
theorem dX4_isNew_28 : decode cX4_isNew 28 = .ok (.goto (-26), 3) := by decide +kernel
theorem dX4_isNew_31 : decode cX4_isNew 31 = .ok (.iconst 1, 1) := by decide +kernel
theorem dX4_isNew_32 : decode cX4_isNew 32 = .ok (.ireturn, 1) := by decide +kernel
theorem dX4_note_0 : decode cX4_note 0 = .ok (.aload_n 0, 1) := by decide +kernel
theorem dX4_note_1 : decode cX4_note 1 = .ok (.getfield 140, 3) := by decide +kernel
theorem dX4_note_4 : decode cX4_note 4 = .ok (.ifCond .ne 59, 3) := by decide +kernel
theorem dX4_note_7 : decode cX4_note 7 = .ok (.aload_n 0, 1) := by decide +kernel
theorem dX4_note_8 : decode cX4_note 8 = .ok (.iload_n 1, 1) := by decide +kernel
theorem dX4_note_9 : decode cX4_note 9 = .ok (.iconst 1, 1) := by decide +kernel
theorem dX4_note_10 : decode cX4_note 10 = .ok (.iadd, 1) := by decide +kernel
theorem dX4_note_11 : decode cX4_note 11 = .ok (.putfield 143, 3) := by decide +kernel
theorem dX4_note_14 : decode cX4_note 14 = .ok (.iconst 0, 1) := by decide +kernel
theorem dX4_note_15 : decode cX4_note 15 = .ok (.istore_n 2, 1) := by decide +kernel
theorem dX4_note_16 : decode cX4_note 16 = .ok (.iload_n 2, 1) := by decide +kernel
theorem dX4_note_17 : decode cX4_note 17 = .ok (.iload_n 1, 1) := by decide +kernel
theorem dX4_note_18 : decode cX4_note 18 = .ok (.if_icmp .gt 45, 3) := by decide +kernel
theorem dX4_note_21 : decode cX4_note 21 = .ok (.aload_n 0, 1) := by decide +kernel
theorem dX4_note_22 : decode cX4_note 22 = .ok (.getfield 71, 3) := by decide +kernel
theorem dX4_note_25 : decode cX4_note 25 = .ok (.iload_n 2, 1) := by decide +kernel
theorem dX4_note_26 : decode cX4_note 26 = .ok (.aload_n 0, 1) := by decide +kernel
theorem dX4_note_27 : decode cX4_note 27 = .ok (.getfield 59, 3) := by decide +kernel
theorem dX4_note_30 : decode cX4_note 30 = .ok (.iload_n 2, 1) := by decide +kernel
theorem dX4_note_31 : decode cX4_note 31 = .ok (.iaload, 1) := by decide +kernel
theorem dX4_note_32 : decode cX4_note 32 = .ok (.iastore, 1) := by decide +kernel
theorem dX4_note_33 : decode cX4_note 33 = .ok (.aload_n 0, 1) := by decide +kernel
theorem dX4_note_34 : decode cX4_note 34 = .ok (.getfield 74, 3) := by decide +kernel
theorem dX4_note_37 : decode cX4_note 37 = .ok (.iload_n 2, 1) := by decide +kernel
theorem dX4_note_38 : decode cX4_note 38 = .ok (.aload_n 0, 1) := by decide +kernel
theorem dX4_note_39 : decode cX4_note 39 = .ok (.getfield 62, 3) := by decide +kernel
theorem dX4_note_42 : decode cX4_note 42 = .ok (.iload_n 2, 1) := by decide +kernel
theorem dX4_note_43 : decode cX4_note 43 = .ok (.iaload, 1) := by decide +kernel
theorem dX4_note_44 : decode cX4_note 44 = .ok (.iastore, 1) := by decide +kernel
theorem dX4_note_45 : decode cX4_note 45 = .ok (.aload_n 0, 1) := by decide +kernel
theorem dX4_note_46 : decode cX4_note 46 = .ok (.getfield 77, 3) := by decide +kernel
theorem dX4_note_49 : decode cX4_note 49 = .ok (.iload_n 2, 1) := by decide +kernel
theorem dX4_note_50 : decode cX4_note 50 = .ok (.aload_n 0, 1) := by decide +kernel
theorem dX4_note_51 : decode cX4_note 51 = .ok (.getfield 65, 3) := by decide +kernel
theorem dX4_note_54 : decode cX4_note 54 = .ok (.iload_n 2, 1) := by decide +kernel
theorem dX4_note_55 : decode cX4_note 55 = .ok (.iaload, 1) := by decide +kernel
theorem dX4_note_56 : decode cX4_note 56 = .ok (.iastore, 1) := by decide +kernel
theorem dX4_note_57 : decode cX4_note 57 = .ok (.iinc 2 1, 3) := by decide +kernel
theorem dX4_note_60 : decode cX4_note 60 = .ok (.goto (-44), 3) := by decide +kernel
theorem dX4_note_63 : decode cX4_note 63 = .ok (.aload_n 0, 1) := by decide +kernel
theorem dX4_note_64 : decode cX4_note 64 = .ok (.dup, 1) := by decide +kernel
theorem dX4_note_65 : decode cX4_note 65 = .ok (.getfield 140, 3) := by decide +kernel
theorem dX4_note_68 : decode cX4_note 68 = .ok (.iconst 1, 1) := by decide +kernel
theorem dX4_note_69 : decode cX4_note 69 = .ok (.iadd, 1) := by decide +kernel
theorem dX4_note_70 : decode cX4_note 70 = .ok (.putfield 140, 3) := by decide +kernel
theorem dX4_note_73 : decode cX4_note 73 = .ok (.return_, 1) := by decide +kernel
theorem dX4_round_0 : decode cX4_round 0 = .ok (.iconst 0, 1) := by decide +kernel
theorem dX4_round_1 : decode cX4_round 1 = .ok (.istore 4, 2) := by decide +kernel
theorem dX4_round_3 : decode cX4_round 3 = .ok (.aload_n 0, 1) := by decide +kernel
theorem dX4_round_4 : decode cX4_round 4 = .ok (.iconst 0, 1) := by decide +kernel
theorem dX4_round_5 : decode cX4_round 5 = .ok (.iload_n 1, 1) := by decide +kernel
theorem dX4_round_6 : decode cX4_round 6 = .ok (.invokevirtual 146, 3) := by decide +kernel
theorem dX4_round_9 : decode cX4_round 9 = .ok (.iload 4, 2) := by decide +kernel
theorem dX4_round_11 : decode cX4_round 11 = .ok (.ifCond .lt 209, 3) := by decide +kernel
theorem dX4_round_14 : decode cX4_round 14 = .ok (.aload_n 0, 1) := by decide +kernel
theorem dX4_round_15 : decode cX4_round 15 = .ok (.iload 4, 2) := by decide +kernel
theorem dX4_round_17 : decode cX4_round 17 = .ok (.invokevirtual 149, 3) := by decide +kernel
theorem dX4_round_20 : decode cX4_round 20 = .ok (.ifCond .ne 9, 3) := by decide +kernel
theorem dX4_round_23 : decode cX4_round 23 = .ok (.iinc 4 (-1), 3) := by decide +kernel
theorem dX4_round_26 : decode cX4_round 26 = .ok (.goto (-17), 3) := by decide +kernel
theorem dX4_round_29 : decode cX4_round 29 = .ok (.aload_n 0, 1) := by decide +kernel
theorem dX4_round_30 : decode cX4_round 30 = .ok (.getfield 152, 3) := by decide +kernel
theorem dX4_round_33 : decode cX4_round 33 = .ok (.iload_n 2, 1) := by decide +kernel
theorem dX4_round_34 : decode cX4_round 34 = .ok (.if_icmp .ne 6, 3) := by decide +kernel
theorem dX4_round_37 : decode cX4_round 37 = .ok (.bipush (-6), 2) := by decide +kernel
theorem dX4_round_39 : decode cX4_round 39 = .ok (.ireturn, 1) := by decide +kernel
theorem dX4_round_40 : decode cX4_round 40 = .ok (.aload_n 0, 1) := by decide +kernel
theorem dX4_round_41 : decode cX4_round 41 = .ok (.dup, 1) := by decide +kernel
theorem dX4_round_42 : decode cX4_round 42 = .ok (.getfield 152, 3) := by decide +kernel
theorem dX4_round_45 : decode cX4_round 45 = .ok (.iconst 1, 1) := by decide +kernel
theorem dX4_round_46 : decode cX4_round 46 = .ok (.iadd, 1) := by decide +kernel
theorem dX4_round_47 : decode cX4_round 47 = .ok (.putfield 152, 3) := by decide +kernel
theorem dX4_round_50 : decode cX4_round 50 = .ok (.aload_n 0, 1) := by decide +kernel
theorem dX4_round_51 : decode cX4_round 51 = .ok (.invokevirtual 86, 3) := by decide +kernel
theorem dX4_round_54 : decode cX4_round 54 = .ok (.iload 4, 2) := by decide +kernel
theorem dX4_round_56 : decode cX4_round 56 = .ok (.iadd, 1) := by decide +kernel
theorem dX4_round_57 : decode cX4_round 57 = .ok (.istore 5, 2) := by decide +kernel
theorem dX4_round_59 : decode cX4_round 59 = .ok (.iconst 0, 1) := by decide +kernel
theorem dX4_round_60 : decode cX4_round 60 = .ok (.istore 6, 2) := by decide +kernel
theorem dX4_round_62 : decode cX4_round 62 = .ok (.iload 6, 2) := by decide +kernel
theorem dX4_round_64 : decode cX4_round 64 = .ok (.aload_n 0, 1) := by decide +kernel
theorem dX4_round_65 : decode cX4_round 65 = .ok (.getfield 19, 3) := by decide +kernel
theorem dX4_round_68 : decode cX4_round 68 = .ok (.if_icmp .ge 72, 3) := by decide +kernel
theorem dX4_round_71 : decode cX4_round 71 = .ok (.aload_n 0, 1) := by decide +kernel
theorem dX4_round_72 : decode cX4_round 72 = .ok (.getfield 44, 3) := by decide +kernel
theorem dX4_round_75 : decode cX4_round 75 = .ok (.sipush 256, 3) := by decide +kernel
theorem dX4_round_78 : decode cX4_round 78 = .ok (.iload 5, 2) := by decide +kernel
theorem dX4_round_80 : decode cX4_round 80 = .ok (.imul, 1) := by decide +kernel
theorem dX4_round_81 : decode cX4_round 81 = .ok (.iload 6, 2) := by decide +kernel
theorem dX4_round_83 : decode cX4_round 83 = .ok (.iadd, 1) := by decide +kernel
theorem dX4_round_84 : decode cX4_round 84 = .ok (.aload_n 0, 1) := by decide +kernel
theorem dX4_round_85 : decode cX4_round 85 = .ok (.aload_n 0, 1) := by decide +kernel
theorem dX4_round_86 : decode cX4_round 86 = .ok (.getfield 59, 3) := by decide +kernel
theorem dX4_round_89 : decode cX4_round 89 = .ok (.iload 4, 2) := by decide +kernel
theorem dX4_round_91 : decode cX4_round 91 = .ok (.iaload, 1) := by decide +kernel
theorem dX4_round_92 : decode cX4_round 92 = .ok (.aload_n 0, 1) := by decide +kernel
theorem dX4_round_93 : decode cX4_round 93 = .ok (.getfield 44, 3) := by decide +kernel
theorem dX4_round_96 : decode cX4_round 96 = .ok (.sipush 256, 3) := by decide +kernel
theorem dX4_round_99 : decode cX4_round 99 = .ok (.aload_n 0, 1) := by decide +kernel
theorem dX4_round_100 : decode cX4_round 100 = .ok (.getfield 62, 3) := by decide +kernel
theorem dX4_round_103 : decode cX4_round 103 = .ok (.iload 4, 2) := by decide +kernel
theorem dX4_round_105 : decode cX4_round 105 = .ok (.iaload, 1) := by decide +kernel
theorem dX4_round_106 : decode cX4_round 106 = .ok (.imul, 1) := by decide +kernel
theorem dX4_round_107 : decode cX4_round 107 = .ok (.iload 6, 2) := by decide +kernel
theorem dX4_round_109 : decode cX4_round 109 = .ok (.iadd, 1) := by decide +kernel
theorem dX4_round_110 : decode cX4_round 110 = .ok (.iaload, 1) := by decide +kernel
theorem dX4_round_111 : decode cX4_round 111 = .ok (.aload_n 0, 1) := by decide +kernel
theorem dX4_round_112 : decode cX4_round 112 = .ok (.getfield 44, 3) := by decide +kernel
theorem dX4_round_115 : decode cX4_round 115 = .ok (.sipush 256, 3) := by decide +kernel
theorem dX4_round_118 : decode cX4_round 118 = .ok (.aload_n 0, 1) := by decide +kernel
theorem dX4_round_119 : decode cX4_round 119 = .ok (.getfield 65, 3) := by decide +kernel
theorem dX4_round_122 : decode cX4_round 122 = .ok (.iload 4, 2) := by decide +kernel
theorem dX4_round_124 : decode cX4_round 124 = .ok (.iaload, 1) := by decide +kernel
theorem dX4_round_125 : decode cX4_round 125 = .ok (.imul, 1) := by decide +kernel
theorem dX4_round_126 : decode cX4_round 126 = .ok (.iload 6, 2) := by decide +kernel
theorem dX4_round_128 : decode cX4_round 128 = .ok (.iadd, 1) := by decide +kernel
theorem dX4_round_129 : decode cX4_round 129 = .ok (.iaload, 1) := by decide +kernel
theorem dX4_round_130 : decode cX4_round 130 = .ok (.invokevirtual 97, 3) := by decide +kernel
theorem dX4_round_133 : decode cX4_round 133 = .ok (.iastore, 1) := by decide +kernel
theorem dX4_round_134 : decode cX4_round 134 = .ok (.iinc 6 1, 3) := by decide +kernel
theorem dX4_round_137 : decode cX4_round 137 = .ok (.goto (-75), 3) := by decide +kernel
theorem dX4_round_140 : decode cX4_round 140 = .ok (.aload_n 0, 1) := by decide +kernel
theorem dX4_round_141 : decode cX4_round 141 = .ok (.getfield 68, 3) := by decide +kernel
theorem dX4_round_144 : decode cX4_round 144 = .ok (.iload 4, 2) := by decide +kernel
theorem dX4_round_146 : decode cX4_round 146 = .ok (.iaload, 1) := by decide +kernel
theorem dX4_round_147 : decode cX4_round 147 = .ok (.aload_n 0, 1) := by decide +kernel
theorem dX4_round_148 : decode cX4_round 148 = .ok (.getfield 26, 3) := by decide +kernel
theorem dX4_round_151 : decode cX4_round 151 = .ok (.aload_n 0, 1) := by decide +kernel
theorem dX4_round_152 : decode cX4_round 152 = .ok (.getfield 59, 3) := by decide +kernel
theorem dX4_round_155 : decode cX4_round 155 = .ok (.iload 4, 2) := by decide +kernel
theorem dX4_round_157 : decode cX4_round 157 = .ok (.iaload, 1) := by decide +kernel
theorem dX4_round_158 : decode cX4_round 158 = .ok (.iaload, 1) := by decide +kernel
theorem dX4_round_159 : decode cX4_round 159 = .ok (.isub, 1) := by decide +kernel
theorem dX4_round_160 : decode cX4_round 160 = .ok (.istore 6, 2) := by decide +kernel
theorem dX4_round_162 : decode cX4_round 162 = .ok (.iload 6, 2) := by decide +kernel
theorem dX4_round_164 : decode cX4_round 164 = .ok (.ifCond .ne 24, 3) := by decide +kernel
theorem dX4_round_167 : decode cX4_round 167 = .ok (.aload_n 0, 1) := by decide +kernel
theorem dX4_round_168 : decode cX4_round 168 = .ok (.iload 5, 2) := by decide +kernel
theorem dX4_round_170 : decode cX4_round 170 = .ok (.invokevirtual 155, 3) := by decide +kernel
theorem dX4_round_173 : decode cX4_round 173 = .ok (.ifCond .eq 44, 3) := by decide +kernel
theorem dX4_round_176 : decode cX4_round 176 = .ok (.aload_n 0, 1) := by decide +kernel
theorem dX4_round_177 : decode cX4_round 177 = .ok (.iload 4, 2) := by decide +kernel
theorem dX4_round_179 : decode cX4_round 179 = .ok (.invokevirtual 158, 3) := by decide +kernel
theorem dX4_round_182 : decode cX4_round 182 = .ok (.iload_n 3, 1) := by decide +kernel
theorem dX4_round_183 : decode cX4_round 183 = .ok (.ifCond .ne 34, 3) := by decide +kernel
theorem dX4_round_186 : decode cX4_round 186 = .ok (.iconst 0, 1) := by decide +kernel
theorem dX4_round_187 : decode cX4_round 187 = .ok (.ireturn, 1) := by decide +kernel
theorem dX4_round_188 : decode cX4_round 188 = .ok (.iload 4, 2) := by decide +kernel
theorem dX4_round_190 : decode cX4_round 190 = .ok (.iconst 1, 1) := by decide +kernel
theorem dX4_round_191 : decode cX4_round 191 = .ok (.iadd, 1) := by decide +kernel
theorem dX4_round_192 : decode cX4_round 192 = .ok (.bipush 12, 2) := by decide +kernel
theorem dX4_round_194 : decode cX4_round 194 = .ok (.if_icmp .ge 23, 3) := by decide +kernel
theorem dX4_round_197 : decode cX4_round 197 = .ok (.aload_n 0, 1) := by decide +kernel
theorem dX4_round_198 : decode cX4_round 198 = .ok (.iload 5, 2) := by decide +kernel
theorem dX4_round_200 : decode cX4_round 200 = .ok (.invokevirtual 162, 3) := by decide +kernel
theorem dX4_round_203 : decode cX4_round 203 = .ok (.ifCond .eq 14, 3) := by decide +kernel
theorem dX4_round_206 : decode cX4_round 206 = .ok (.iinc 4 1, 3) := by decide +kernel
theorem dX4_round_209 : decode cX4_round 209 = .ok (.aload_n 0, 1) := by decide +kernel
theorem dX4_round_210 : decode cX4_round 210 = .ok (.iload 4, 2) := by decide +kernel
theorem dX4_round_212 : decode cX4_round 212 = .ok (.iload 6, 2) := by decide +kernel
theorem dX4_round_214 : decode cX4_round 214 = .ok (.invokevirtual 146, 3) := by decide +kernel
theorem dX4_round_217 : decode cX4_round 217 = .ok (.goto (-208), 3) := by decide +kernel
theorem dX4_round_220 : decode cX4_round 220 = .ok (.iconst 0, 1) := by decide +kernel
theorem dX4_round_221 : decode cX4_round 221 = .ok (.ireturn, 1) := by decide +kernel
theorem dX4_keepFirst_0 : decode cX4_keepFirst 0 = .ok (.aload_n 0, 1) := by decide +kernel
theorem dX4_keepFirst_1 : decode cX4_keepFirst 1 = .ok (.iconst 1, 1) := by decide +kernel
theorem dX4_keepFirst_2 : decode cX4_keepFirst 2 = .ok (.putfield 108, 3) := by decide +kernel
theorem dX4_keepFirst_5 : decode cX4_keepFirst 5 = .ok (.aload_n 0, 1) := by decide +kernel
theorem dX4_keepFirst_6 : decode cX4_keepFirst 6 = .ok (.aload_n 0, 1) := by decide +kernel
theorem dX4_keepFirst_7 : decode cX4_keepFirst 7 = .ok (.getfield 143, 3) := by decide +kernel
theorem dX4_keepFirst_10 : decode cX4_keepFirst 10 = .ok (.putfield 165, 3) := by decide +kernel
theorem dX4_keepFirst_13 : decode cX4_keepFirst 13 = .ok (.iconst 0, 1) := by decide +kernel
theorem dX4_keepFirst_14 : decode cX4_keepFirst 14 = .ok (.istore_n 2, 1) := by decide +kernel
theorem dX4_keepFirst_15 : decode cX4_keepFirst 15 = .ok (.iload_n 2, 1) := by decide +kernel
theorem dX4_keepFirst_16 : decode cX4_keepFirst 16 = .ok (.aload_n 0, 1) := by decide +kernel
theorem dX4_keepFirst_17 : decode cX4_keepFirst 17 = .ok (.getfield 143, 3) := by decide +kernel
theorem dX4_keepFirst_20 : decode cX4_keepFirst 20 = .ok (.if_icmp .ge 45, 3) := by decide +kernel
theorem dX4_keepFirst_23 : decode cX4_keepFirst 23 = .ok (.aload_n 0, 1) := by decide +kernel
theorem dX4_keepFirst_24 : decode cX4_keepFirst 24 = .ok (.getfield 47, 3) := by decide +kernel
theorem dX4_keepFirst_27 : decode cX4_keepFirst 27 = .ok (.iload_n 2, 1) := by decide +kernel
theorem dX4_keepFirst_28 : decode cX4_keepFirst 28 = .ok (.aload_n 0, 1) := by decide +kernel
theorem dX4_keepFirst_29 : decode cX4_keepFirst 29 = .ok (.getfield 71, 3) := by decide +kernel
theorem dX4_keepFirst_32 : decode cX4_keepFirst 32 = .ok (.iload_n 2, 1) := by decide +kernel
theorem dX4_keepFirst_33 : decode cX4_keepFirst 33 = .ok (.iaload, 1) := by decide +kernel
theorem dX4_keepFirst_34 : decode cX4_keepFirst 34 = .ok (.iastore, 1) := by decide +kernel
theorem dX4_keepFirst_35 : decode cX4_keepFirst 35 = .ok (.aload_n 0, 1) := by decide +kernel
theorem dX4_keepFirst_36 : decode cX4_keepFirst 36 = .ok (.getfield 50, 3) := by decide +kernel
theorem dX4_keepFirst_39 : decode cX4_keepFirst 39 = .ok (.iload_n 2, 1) := by decide +kernel
theorem dX4_keepFirst_40 : decode cX4_keepFirst 40 = .ok (.aload_n 0, 1) := by decide +kernel
theorem dX4_keepFirst_41 : decode cX4_keepFirst 41 = .ok (.getfield 74, 3) := by decide +kernel
theorem dX4_keepFirst_44 : decode cX4_keepFirst 44 = .ok (.iload_n 2, 1) := by decide +kernel
theorem dX4_keepFirst_45 : decode cX4_keepFirst 45 = .ok (.iaload, 1) := by decide +kernel
theorem dX4_keepFirst_46 : decode cX4_keepFirst 46 = .ok (.iastore, 1) := by decide +kernel
theorem dX4_keepFirst_47 : decode cX4_keepFirst 47 = .ok (.aload_n 0, 1) := by decide +kernel
theorem dX4_keepFirst_48 : decode cX4_keepFirst 48 = .ok (.getfield 53, 3) := by decide +kernel
theorem dX4_keepFirst_51 : decode cX4_keepFirst 51 = .ok (.iload_n 2, 1) := by decide +kernel
theorem dX4_keepFirst_52 : decode cX4_keepFirst 52 = .ok (.aload_n 0, 1) := by decide +kernel
theorem dX4_keepFirst_53 : decode cX4_keepFirst 53 = .ok (.getfield 77, 3) := by decide +kernel
theorem dX4_keepFirst_56 : decode cX4_keepFirst 56 = .ok (.iload_n 2, 1) := by decide +kernel
theorem dX4_keepFirst_57 : decode cX4_keepFirst 57 = .ok (.iaload, 1) := by decide +kernel
theorem dX4_keepFirst_58 : decode cX4_keepFirst 58 = .ok (.iastore, 1) := by decide +kernel
theorem dX4_keepFirst_59 : decode cX4_keepFirst 59 = .ok (.iinc 2 1, 3) := by decide +kernel
theorem dX4_keepFirst_62 : decode cX4_keepFirst 62 = .ok (.goto (-47), 3) := by decide +kernel
theorem dX4_keepFirst_65 : decode cX4_keepFirst 65 = .ok (.aload_n 0, 1) := by decide +kernel
theorem dX4_keepFirst_66 : decode cX4_keepFirst 66 = .ok (.aload_n 0, 1) := by decide +kernel
theorem dX4_keepFirst_67 : decode cX4_keepFirst 67 = .ok (.invokevirtual 86, 3) := by decide +kernel
theorem dX4_keepFirst_70 : decode cX4_keepFirst 70 = .ok (.aload_n 0, 1) := by decide +kernel
theorem dX4_keepFirst_71 : decode cX4_keepFirst 71 = .ok (.getfield 143, 3) := by decide +kernel
theorem dX4_keepFirst_74 : decode cX4_keepFirst 74 = .ok (.iadd, 1) := by decide +kernel
theorem dX4_keepFirst_75 : decode cX4_keepFirst 75 = .ok (.iconst 1, 1) := by decide +kernel
theorem dX4_keepFirst_76 : decode cX4_keepFirst 76 = .ok (.isub, 1) := by decide +kernel
theorem dX4_keepFirst_77 : decode cX4_keepFirst 77 = .ok (.putfield 168, 3) := by decide +kernel
theorem dX4_keepFirst_80 : decode cX4_keepFirst 80 = .ok (.aload_n 0, 1) := by decide +kernel
theorem dX4_keepFirst_81 : decode cX4_keepFirst 81 = .ok (.iload_n 1, 1) := by decide +kernel
theorem dX4_keepFirst_82 : decode cX4_keepFirst 82 = .ok (.putfield 56, 3) := by decide +kernel
theorem dX4_keepFirst_85 : decode cX4_keepFirst 85 = .ok (.return_, 1) := by decide +kernel
theorem dX4_search_0 : decode cX4_search 0 = .ok (.iload_n 1, 1) := by decide +kernel
theorem dX4_search_1 : decode cX4_search 1 = .ok (.iconst 0, 1) := by decide +kernel
theorem dX4_search_2 : decode cX4_search 2 = .ok (.bipush 30, 2) := by decide +kernel
theorem dX4_search_4 : decode cX4_search 4 = .ok (.invokestatic 101, 3) := by decide +kernel
theorem dX4_search_7 : decode cX4_search 7 = .ok (.ifCond .eq 23, 3) := by decide +kernel
theorem dX4_search_10 : decode cX4_search 10 = .ok (.iload_n 2, 1) := by decide +kernel
theorem dX4_search_11 : decode cX4_search 11 = .ok (.iconst 0, 1) := by decide +kernel
theorem dX4_search_12 : decode cX4_search 12 = .ok (.sipush 30000, 3) := by decide +kernel
theorem dX4_search_15 : decode cX4_search 15 = .ok (.invokestatic 101, 3) := by decide +kernel
theorem dX4_search_18 : decode cX4_search 18 = .ok (.ifCond .eq 12, 3) := by decide +kernel
theorem dX4_search_21 : decode cX4_search 21 = .ok (.iload_n 3, 1) := by decide +kernel
theorem dX4_search_22 : decode cX4_search 22 = .ok (.iconst 0, 1) := by decide +kernel
theorem dX4_search_23 : decode cX4_search 23 = .ok (.iconst 1, 1) := by decide +kernel
theorem dX4_search_24 : decode cX4_search 24 = .ok (.invokestatic 101, 3) := by decide +kernel
theorem dX4_search_27 : decode cX4_search 27 = .ok (.ifCond .ne 6, 3) := by decide +kernel
theorem dX4_search_30 : decode cX4_search 30 = .ok (.bipush (-2), 2) := by decide +kernel
theorem dX4_search_32 : decode cX4_search 32 = .ok (.ireturn, 1) := by decide +kernel
theorem dX4_search_33 : decode cX4_search 33 = .ok (.aload_n 0, 1) := by decide +kernel
theorem dX4_search_34 : decode cX4_search 34 = .ok (.iconst 0, 1) := by decide +kernel
theorem dX4_search_35 : decode cX4_search 35 = .ok (.putfield 152, 3) := by decide +kernel
theorem dX4_search_38 : decode cX4_search 38 = .ok (.aload_n 0, 1) := by decide +kernel
theorem dX4_search_39 : decode cX4_search 39 = .ok (.iconst 0, 1) := by decide +kernel
theorem dX4_search_40 : decode cX4_search 40 = .ok (.putfield 171, 3) := by decide +kernel
theorem dX4_search_43 : decode cX4_search 43 = .ok (.aload_n 0, 1) := by decide +kernel
theorem dX4_search_44 : decode cX4_search 44 = .ok (.iconst 0, 1) := by decide +kernel
theorem dX4_search_45 : decode cX4_search 45 = .ok (.putfield 140, 3) := by decide +kernel
theorem dX4_search_48 : decode cX4_search 48 = .ok (.aload_n 0, 1) := by decide +kernel
theorem dX4_search_49 : decode cX4_search 49 = .ok (.aload_n 0, 1) := by decide +kernel
theorem dX4_search_50 : decode cX4_search 50 = .ok (.getfield 44, 3) := by decide +kernel
theorem dX4_search_53 : decode cX4_search 53 = .ok (.invokevirtual 93, 3) := by decide +kernel
theorem dX4_search_56 : decode cX4_search 56 = .ok (.iconst 0, 1) := by decide +kernel
theorem dX4_search_57 : decode cX4_search 57 = .ok (.istore 4, 2) := by decide +kernel
theorem dX4_search_59 : decode cX4_search 59 = .ok (.iload 4, 2) := by decide +kernel
theorem dX4_search_61 : decode cX4_search 61 = .ok (.aload_n 0, 1) := by decide +kernel
theorem dX4_search_62 : decode cX4_search 62 = .ok (.invokevirtual 86, 3) := by decide +kernel
theorem dX4_search_65 : decode cX4_search 65 = .ok (.if_icmp .ge 49, 3) := by decide +kernel
theorem dX4_search_68 : decode cX4_search 68 = .ok (.aload_n 0, 1) := by decide +kernel
theorem dX4_search_69 : decode cX4_search 69 = .ok (.iload 4, 2) := by decide +kernel
theorem dX4_search_71 : decode cX4_search 71 = .ok (.invokevirtual 155, 3) := by decide +kernel
theorem dX4_search_74 : decode cX4_search 74 = .ok (.ifCond .eq 34, 3) := by decide +kernel
theorem dX4_search_77 : decode cX4_search 77 = .ok (.aload_n 0, 1) := by decide +kernel
theorem dX4_search_78 : decode cX4_search 78 = .ok (.iconst 1, 1) := by decide +kernel
theorem dX4_search_79 : decode cX4_search 79 = .ok (.putfield 140, 3) := by decide +kernel
theorem dX4_search_82 : decode cX4_search 82 = .ok (.aload_n 0, 1) := by decide +kernel
theorem dX4_search_83 : decode cX4_search 83 = .ok (.iconst 1, 1) := by decide +kernel
theorem dX4_search_84 : decode cX4_search 84 = .ok (.putfield 108, 3) := by decide +kernel
theorem dX4_search_87 : decode cX4_search 87 = .ok (.aload_n 0, 1) := by decide +kernel
theorem dX4_search_88 : decode cX4_search 88 = .ok (.iconst 0, 1) := by decide +kernel
theorem dX4_search_89 : decode cX4_search 89 = .ok (.putfield 165, 3) := by decide +kernel
theorem dX4_search_92 : decode cX4_search 92 = .ok (.aload_n 0, 1) := by decide +kernel
theorem dX4_search_93 : decode cX4_search 93 = .ok (.iload 4, 2) := by decide +kernel
theorem dX4_search_95 : decode cX4_search 95 = .ok (.putfield 168, 3) := by decide +kernel
theorem dX4_search_98 : decode cX4_search 98 = .ok (.aload_n 0, 1) := by decide +kernel
theorem dX4_search_99 : decode cX4_search 99 = .ok (.iconst 0, 1) := by decide +kernel
theorem dX4_search_100 : decode cX4_search 100 = .ok (.putfield 56, 3) := by decide +kernel
theorem dX4_search_103 : decode cX4_search 103 = .ok (.aload_n 0, 1) := by decide +kernel
theorem dX4_search_104 : decode cX4_search 104 = .ok (.getfield 56, 3) := by decide +kernel
theorem dX4_search_107 : decode cX4_search 107 = .ok (.ireturn, 1) := by decide +kernel
theorem dX4_search_108 : decode cX4_search 108 = .ok (.iinc 4 1, 3) := by decide +kernel
theorem dX4_search_111 : decode cX4_search 111 = .ok (.goto (-52), 3) := by decide +kernel
theorem dX4_search_114 : decode cX4_search 114 = .ok (.aload_n 0, 1) := by decide +kernel
theorem dX4_search_115 : decode cX4_search 115 = .ok (.bipush (-5), 2) := by decide +kernel
theorem dX4_search_117 : decode cX4_search 117 = .ok (.putfield 56, 3) := by decide +kernel
theorem dX4_search_120 : decode cX4_search 120 = .ok (.iconst 1, 1) := by decide +kernel
theorem dX4_search_121 : decode cX4_search 121 = .ok (.istore 4, 2) := by decide +kernel
theorem dX4_search_123 : decode cX4_search 123 = .ok (.iload 4, 2) := by decide +kernel
theorem dX4_search_125 : decode cX4_search 125 = .ok (.iload_n 1, 1) := by decide +kernel
theorem dX4_search_126 : decode cX4_search 126 = .ok (.if_icmp .gt 70, 3) := by decide +kernel
theorem dX4_search_129 : decode cX4_search 129 = .ok (.aload_n 0, 1) := by decide +kernel
theorem dX4_search_130 : decode cX4_search 130 = .ok (.getfield 56, 3) := by decide +kernel
theorem dX4_search_133 : decode cX4_search 133 = .ok (.bipush (-5), 2) := by decide +kernel
theorem dX4_search_135 : decode cX4_search 135 = .ok (.if_icmp .ne 61, 3) := by decide +kernel
theorem dX4_search_138 : decode cX4_search 138 = .ok (.aload_n 0, 1) := by decide +kernel
theorem dX4_search_139 : decode cX4_search 139 = .ok (.dup, 1) := by decide +kernel
theorem dX4_search_140 : decode cX4_search 140 = .ok (.getfield 171, 3) := by decide +kernel
theorem dX4_search_143 : decode cX4_search 143 = .ok (.iconst 1, 1) := by decide +kernel
theorem dX4_search_144 : decode cX4_search 144 = .ok (.iadd, 1) := by decide +kernel
theorem dX4_search_145 : decode cX4_search 145 = .ok (.putfield 171, 3) := by decide +kernel
theorem dX4_search_148 : decode cX4_search 148 = .ok (.aload_n 0, 1) := by decide +kernel
theorem dX4_search_149 : decode cX4_search 149 = .ok (.iload 4, 2) := by decide +kernel
theorem dX4_search_151 : decode cX4_search 151 = .ok (.iload_n 2, 1) := by decide +kernel
theorem dX4_search_152 : decode cX4_search 152 = .ok (.iload_n 3, 1) := by decide +kernel
theorem dX4_search_153 : decode cX4_search 153 = .ok (.iconst 1, 1) := by decide +kernel
theorem dX4_search_154 : decode cX4_search 154 = .ok (.if_icmp .ne 7, 3) := by decide +kernel
theorem dX4_search_157 : decode cX4_search 157 = .ok (.iconst 1, 1) := by decide +kernel
theorem dX4_search_158 : decode cX4_search 158 = .ok (.goto 4, 3) := by decide +kernel
theorem dX4_search_161 : decode cX4_search 161 = .ok (.iconst 0, 1) := by decide +kernel
theorem dX4_search_162 : decode cX4_search 162 = .ok (.invokevirtual 174, 3) := by decide +kernel
theorem dX4_search_165 : decode cX4_search 165 = .ok (.ifCond .eq 12, 3) := by decide +kernel
theorem dX4_search_168 : decode cX4_search 168 = .ok (.aload_n 0, 1) := by decide +kernel
theorem dX4_search_169 : decode cX4_search 169 = .ok (.bipush (-6), 2) := by decide +kernel
theorem dX4_search_171 : decode cX4_search 171 = .ok (.putfield 56, 3) := by decide +kernel
theorem dX4_search_174 : decode cX4_search 174 = .ok (.goto 16, 3) := by decide +kernel
theorem dX4_search_177 : decode cX4_search 177 = .ok (.aload_n 0, 1) := by decide +kernel
theorem dX4_search_178 : decode cX4_search 178 = .ok (.getfield 140, 3) := by decide +kernel
theorem dX4_search_181 : decode cX4_search 181 = .ok (.ifCond .le 9, 3) := by decide +kernel
theorem dX4_search_184 : decode cX4_search 184 = .ok (.aload_n 0, 1) := by decide +kernel
theorem dX4_search_185 : decode cX4_search 185 = .ok (.iload 4, 2) := by decide +kernel
theorem dX4_search_187 : decode cX4_search 187 = .ok (.invokevirtual 178, 3) := by decide +kernel
theorem dX4_search_190 : decode cX4_search 190 = .ok (.iinc 4 1, 3) := by decide +kernel
theorem dX4_search_193 : decode cX4_search 193 = .ok (.goto (-70), 3) := by decide +kernel
theorem dX4_search_196 : decode cX4_search 196 = .ok (.aload_n 0, 1) := by decide +kernel
theorem dX4_search_197 : decode cX4_search 197 = .ok (.getfield 56, 3) := by decide +kernel
theorem dX4_search_200 : decode cX4_search 200 = .ok (.ireturn, 1) := by decide +kernel
theorem dX4_told_0 : decode cX4_told 0 = .ok (.iload_n 1, 1) := by decide +kernel
theorem dX4_told_1 : decode cX4_told 1 = .ok (.ifCond .ne 10, 3) := by decide +kernel
theorem dX4_told_4 : decode cX4_told 4 = .ok (.aload_n 0, 1) := by decide +kernel
theorem dX4_told_5 : decode cX4_told 5 = .ok (.getfield 152, 3) := by decide +kernel
theorem dX4_told_8 : decode cX4_told 8 = .ok (.goto 41, 3) := by decide +kernel
theorem dX4_told_11 : decode cX4_told 11 = .ok (.iload_n 1, 1) := by decide +kernel
theorem dX4_told_12 : decode cX4_told 12 = .ok (.iconst 1, 1) := by decide +kernel
theorem dX4_told_13 : decode cX4_told 13 = .ok (.if_icmp .ne 10, 3) := by decide +kernel
theorem dX4_told_16 : decode cX4_told 16 = .ok (.aload_n 0, 1) := by decide +kernel
theorem dX4_told_17 : decode cX4_told 17 = .ok (.getfield 171, 3) := by decide +kernel
theorem dX4_told_20 : decode cX4_told 20 = .ok (.goto 29, 3) := by decide +kernel
theorem dX4_told_23 : decode cX4_told 23 = .ok (.iload_n 1, 1) := by decide +kernel
theorem dX4_told_24 : decode cX4_told 24 = .ok (.iconst 2, 1) := by decide +kernel
theorem dX4_told_25 : decode cX4_told 25 = .ok (.if_icmp .ne 10, 3) := by decide +kernel
theorem dX4_told_28 : decode cX4_told 28 = .ok (.aload_n 0, 1) := by decide +kernel
theorem dX4_told_29 : decode cX4_told 29 = .ok (.getfield 140, 3) := by decide +kernel
theorem dX4_told_32 : decode cX4_told 32 = .ok (.goto 17, 3) := by decide +kernel
theorem dX4_told_35 : decode cX4_told 35 = .ok (.iload_n 1, 1) := by decide +kernel
theorem dX4_told_36 : decode cX4_told 36 = .ok (.iconst 3, 1) := by decide +kernel
theorem dX4_told_37 : decode cX4_told 37 = .ok (.if_icmp .ne 10, 3) := by decide +kernel
theorem dX4_told_40 : decode cX4_told 40 = .ok (.aload_n 0, 1) := by decide +kernel
theorem dX4_told_41 : decode cX4_told 41 = .ok (.getfield 56, 3) := by decide +kernel
theorem dX4_told_44 : decode cX4_told 44 = .ok (.goto 5, 3) := by decide +kernel
theorem dX4_told_47 : decode cX4_told 47 = .ok (.bipush (-2), 2) := by decide +kernel
theorem dX4_told_49 : decode cX4_told 49 = .ok (.ireturn, 1) := by decide +kernel
theorem dX4_take_0 : decode cX4_take 0 = .ok (.aload_n 0, 1) := by decide +kernel
theorem dX4_take_1 : decode cX4_take 1 = .ok (.getfield 108, 3) := by decide +kernel
theorem dX4_take_4 : decode cX4_take 4 = .ok (.ifCond .ne 6, 3) := by decide +kernel
theorem dX4_take_7 : decode cX4_take 7 = .ok (.bipush (-3), 2) := by decide +kernel
theorem dX4_take_9 : decode cX4_take 9 = .ok (.ireturn, 1) := by decide +kernel
theorem dX4_take_10 : decode cX4_take 10 = .ok (.aload_n 0, 1) := by decide +kernel
theorem dX4_take_11 : decode cX4_take 11 = .ok (.aload_n 0, 1) := by decide +kernel
theorem dX4_take_12 : decode cX4_take 12 = .ok (.getfield 165, 3) := by decide +kernel
theorem dX4_take_15 : decode cX4_take 15 = .ok (.putfield 90, 3) := by decide +kernel
theorem dX4_take_18 : decode cX4_take 18 = .ok (.iconst 0, 1) := by decide +kernel
theorem dX4_take_19 : decode cX4_take 19 = .ok (.istore_n 1, 1) := by decide +kernel
theorem dX4_take_20 : decode cX4_take 20 = .ok (.iload_n 1, 1) := by decide +kernel
theorem dX4_take_21 : decode cX4_take 21 = .ok (.aload_n 0, 1) := by decide +kernel
theorem dX4_take_22 : decode cX4_take 22 = .ok (.getfield 90, 3) := by decide +kernel
theorem dX4_take_25 : decode cX4_take 25 = .ok (.if_icmp .ge 45, 3) := by decide +kernel
theorem dX4_take_28 : decode cX4_take 28 = .ok (.aload_n 0, 1) := by decide +kernel
theorem dX4_take_29 : decode cX4_take 29 = .ok (.getfield 32, 3) := by decide +kernel
theorem dX4_take_32 : decode cX4_take 32 = .ok (.iload_n 1, 1) := by decide +kernel
theorem dX4_take_33 : decode cX4_take 33 = .ok (.aload_n 0, 1) := by decide +kernel
theorem dX4_take_34 : decode cX4_take 34 = .ok (.getfield 47, 3) := by decide +kernel
theorem dX4_take_37 : decode cX4_take 37 = .ok (.iload_n 1, 1) := by decide +kernel
theorem dX4_take_38 : decode cX4_take 38 = .ok (.iaload, 1) := by decide +kernel
theorem dX4_take_39 : decode cX4_take 39 = .ok (.iastore, 1) := by decide +kernel
theorem dX4_take_40 : decode cX4_take 40 = .ok (.aload_n 0, 1) := by decide +kernel
theorem dX4_take_41 : decode cX4_take 41 = .ok (.getfield 35, 3) := by decide +kernel
theorem dX4_take_44 : decode cX4_take 44 = .ok (.iload_n 1, 1) := by decide +kernel
theorem dX4_take_45 : decode cX4_take 45 = .ok (.aload_n 0, 1) := by decide +kernel
theorem dX4_take_46 : decode cX4_take 46 = .ok (.getfield 50, 3) := by decide +kernel
theorem dX4_take_49 : decode cX4_take 49 = .ok (.iload_n 1, 1) := by decide +kernel
theorem dX4_take_50 : decode cX4_take 50 = .ok (.iaload, 1) := by decide +kernel
theorem dX4_take_51 : decode cX4_take 51 = .ok (.iastore, 1) := by decide +kernel
theorem dX4_take_52 : decode cX4_take 52 = .ok (.aload_n 0, 1) := by decide +kernel
theorem dX4_take_53 : decode cX4_take 53 = .ok (.getfield 38, 3) := by decide +kernel
theorem dX4_take_56 : decode cX4_take 56 = .ok (.iload_n 1, 1) := by decide +kernel
theorem dX4_take_57 : decode cX4_take 57 = .ok (.aload_n 0, 1) := by decide +kernel
theorem dX4_take_58 : decode cX4_take 58 = .ok (.getfield 53, 3) := by decide +kernel
theorem dX4_take_61 : decode cX4_take 61 = .ok (.iload_n 1, 1) := by decide +kernel
theorem dX4_take_62 : decode cX4_take 62 = .ok (.iaload, 1) := by decide +kernel
theorem dX4_take_63 : decode cX4_take 63 = .ok (.iastore, 1) := by decide +kernel
theorem dX4_take_64 : decode cX4_take 64 = .ok (.iinc 1 1, 3) := by decide +kernel
theorem dX4_take_67 : decode cX4_take 67 = .ok (.goto (-47), 3) := by decide +kernel
theorem dX4_take_70 : decode cX4_take 70 = .ok (.aload_n 0, 1) := by decide +kernel
theorem dX4_take_71 : decode cX4_take 71 = .ok (.aload_n 0, 1) := by decide +kernel
theorem dX4_take_72 : decode cX4_take 72 = .ok (.getfield 168, 3) := by decide +kernel
theorem dX4_take_75 : decode cX4_take 75 = .ok (.putfield 105, 3) := by decide +kernel
theorem dX4_take_78 : decode cX4_take 78 = .ok (.aload_n 0, 1) := by decide +kernel
theorem dX4_take_79 : decode cX4_take 79 = .ok (.invokevirtual 80, 3) := by decide +kernel
theorem dX4_take_82 : decode cX4_take 82 = .ok (.aload_n 0, 1) := by decide +kernel
theorem dX4_take_83 : decode cX4_take 83 = .ok (.getfield 90, 3) := by decide +kernel
theorem dX4_take_86 : decode cX4_take 86 = .ok (.ireturn, 1) := by decide +kernel
theorem dL_law_0 : decode cL_law 0 = .ok (.new 7, 3) := by decide +kernel
theorem dL_law_3 : decode cL_law 3 = .ok (.dup, 1) := by decide +kernel
theorem dL_law_4 : decode cL_law 4 = .ok (.invokespecial 9, 3) := by decide +kernel
theorem dL_law_7 : decode cL_law 7 = .ok (.astore_n 1, 1) := by decide +kernel
theorem dL_law_8 : decode cL_law 8 = .ok (.new 10, 3) := by decide +kernel
theorem dL_law_11 : decode cL_law 11 = .ok (.dup, 1) := by decide +kernel
theorem dL_law_12 : decode cL_law 12 = .ok (.invokespecial 12, 3) := by decide +kernel
theorem dL_law_15 : decode cL_law 15 = .ok (.astore_n 2, 1) := by decide +kernel
theorem dL_law_16 : decode cL_law 16 = .ok (.iconst 0, 1) := by decide +kernel
theorem dL_law_17 : decode cL_law 17 = .ok (.istore_n 3, 1) := by decide +kernel
theorem dL_law_18 : decode cL_law 18 = .ok (.iload_n 3, 1) := by decide +kernel
theorem dL_law_19 : decode cL_law 19 = .ok (.aload_n 0, 1) := by decide +kernel
theorem dL_law_20 : decode cL_law 20 = .ok (.arraylength, 1) := by decide +kernel
theorem dL_law_21 : decode cL_law 21 = .ok (.iconst 4, 1) := by decide +kernel
theorem dL_law_22 : decode cL_law 22 = .ok (.isub, 1) := by decide +kernel
theorem dL_law_23 : decode cL_law 23 = .ok (.if_icmp .gt 523, 3) := by decide +kernel
theorem dL_law_26 : decode cL_law 26 = .ok (.aload_n 0, 1) := by decide +kernel
theorem dL_law_27 : decode cL_law 27 = .ok (.iload_n 3, 1) := by decide +kernel
theorem dL_law_28 : decode cL_law 28 = .ok (.iaload, 1) := by decide +kernel
theorem dL_law_29 : decode cL_law 29 = .ok (.bipush 15, 2) := by decide +kernel
theorem dL_law_31 : decode cL_law 31 = .ok (.iand, 1) := by decide +kernel
theorem dL_law_32 : decode cL_law 32 = .ok (.tableswitch 508 0 15 #[80, 113, 136, 169, 202, 215, 258, 271, 294, 327, 350, 383, 416, 429, 472, 495], 80) := by decide +kernel
theorem dL_law_112 : decode cL_law 112 = .ok (.aload_n 1, 1) := by decide +kernel
theorem dL_law_113 : decode cL_law 113 = .ok (.aload_n 0, 1) := by decide +kernel
theorem dL_law_114 : decode cL_law 114 = .ok (.iload_n 3, 1) := by decide +kernel
theorem dL_law_115 : decode cL_law 115 = .ok (.iconst 1, 1) := by decide +kernel
theorem dL_law_116 : decode cL_law 116 = .ok (.iadd, 1) := by decide +kernel
theorem dL_law_117 : decode cL_law 117 = .ok (.iaload, 1) := by decide +kernel
theorem dL_law_118 : decode cL_law 118 = .ok (.aload_n 0, 1) := by decide +kernel
theorem dL_law_119 : decode cL_law 119 = .ok (.iload_n 3, 1) := by decide +kernel
theorem dL_law_120 : decode cL_law 120 = .ok (.iconst 2, 1) := by decide +kernel
theorem dL_law_121 : decode cL_law 121 = .ok (.iadd, 1) := by decide +kernel
theorem dL_law_122 : decode cL_law 122 = .ok (.iaload, 1) := by decide +kernel
theorem dL_law_123 : decode cL_law 123 = .ok (.invokevirtual 13, 3) := by decide +kernel
theorem dL_law_126 : decode cL_law 126 = .ok (.aload_n 2, 1) := by decide +kernel
theorem dL_law_127 : decode cL_law 127 = .ok (.aload_n 0, 1) := by decide +kernel
theorem dL_law_128 : decode cL_law 128 = .ok (.iload_n 3, 1) := by decide +kernel
theorem dL_law_129 : decode cL_law 129 = .ok (.iconst 1, 1) := by decide +kernel
theorem dL_law_130 : decode cL_law 130 = .ok (.iadd, 1) := by decide +kernel
theorem dL_law_131 : decode cL_law 131 = .ok (.iaload, 1) := by decide +kernel
theorem dL_law_132 : decode cL_law 132 = .ok (.aload_n 0, 1) := by decide +kernel
theorem dL_law_133 : decode cL_law 133 = .ok (.iload_n 3, 1) := by decide +kernel
theorem dL_law_134 : decode cL_law 134 = .ok (.iconst 2, 1) := by decide +kernel
theorem dL_law_135 : decode cL_law 135 = .ok (.iadd, 1) := by decide +kernel
theorem dL_law_136 : decode cL_law 136 = .ok (.iaload, 1) := by decide +kernel
theorem dL_law_137 : decode cL_law 137 = .ok (.invokevirtual 17, 3) := by decide +kernel
theorem dL_law_140 : decode cL_law 140 = .ok (.if_icmp .eq 400, 3) := by decide +kernel
theorem dL_law_143 : decode cL_law 143 = .ok (.iconst 0, 1) := by decide +kernel
theorem dL_law_144 : decode cL_law 144 = .ok (.ireturn, 1) := by decide +kernel
theorem dL_law_145 : decode cL_law 145 = .ok (.aload_n 1, 1) := by decide +kernel
theorem dL_law_146 : decode cL_law 146 = .ok (.aload_n 0, 1) := by decide +kernel
theorem dL_law_147 : decode cL_law 147 = .ok (.iload_n 3, 1) := by decide +kernel
theorem dL_law_148 : decode cL_law 148 = .ok (.iconst 1, 1) := by decide +kernel
theorem dL_law_149 : decode cL_law 149 = .ok (.iadd, 1) := by decide +kernel
theorem dL_law_150 : decode cL_law 150 = .ok (.iaload, 1) := by decide +kernel
theorem dL_law_151 : decode cL_law 151 = .ok (.invokevirtual 18, 3) := by decide +kernel
theorem dL_law_154 : decode cL_law 154 = .ok (.aload_n 2, 1) := by decide +kernel
theorem dL_law_155 : decode cL_law 155 = .ok (.aload_n 0, 1) := by decide +kernel
theorem dL_law_156 : decode cL_law 156 = .ok (.iload_n 3, 1) := by decide +kernel
theorem dL_law_157 : decode cL_law 157 = .ok (.iconst 1, 1) := by decide +kernel
theorem dL_law_158 : decode cL_law 158 = .ok (.iadd, 1) := by decide +kernel
theorem dL_law_159 : decode cL_law 159 = .ok (.iaload, 1) := by decide +kernel
theorem dL_law_160 : decode cL_law 160 = .ok (.invokevirtual 22, 3) := by decide +kernel
theorem dL_law_163 : decode cL_law 163 = .ok (.if_icmp .eq 377, 3) := by decide +kernel
theorem dL_law_166 : decode cL_law 166 = .ok (.iconst 0, 1) := by decide +kernel
theorem dL_law_167 : decode cL_law 167 = .ok (.ireturn, 1) := by decide +kernel
theorem dL_law_168 : decode cL_law 168 = .ok (.aload_n 1, 1) := by decide +kernel
theorem dL_law_169 : decode cL_law 169 = .ok (.aload_n 0, 1) := by decide +kernel
theorem dL_law_170 : decode cL_law 170 = .ok (.iload_n 3, 1) := by decide +kernel
theorem dL_law_171 : decode cL_law 171 = .ok (.iconst 1, 1) := by decide +kernel
theorem dL_law_172 : decode cL_law 172 = .ok (.iadd, 1) := by decide +kernel
theorem dL_law_173 : decode cL_law 173 = .ok (.iaload, 1) := by decide +kernel
theorem dL_law_174 : decode cL_law 174 = .ok (.aload_n 0, 1) := by decide +kernel
theorem dL_law_175 : decode cL_law 175 = .ok (.iload_n 3, 1) := by decide +kernel
theorem dL_law_176 : decode cL_law 176 = .ok (.iconst 2, 1) := by decide +kernel
theorem dL_law_177 : decode cL_law 177 = .ok (.iadd, 1) := by decide +kernel
theorem dL_law_178 : decode cL_law 178 = .ok (.iaload, 1) := by decide +kernel
theorem dL_law_179 : decode cL_law 179 = .ok (.invokevirtual 23, 3) := by decide +kernel
theorem dL_law_182 : decode cL_law 182 = .ok (.aload_n 2, 1) := by decide +kernel
theorem dL_law_183 : decode cL_law 183 = .ok (.aload_n 0, 1) := by decide +kernel
theorem dL_law_184 : decode cL_law 184 = .ok (.iload_n 3, 1) := by decide +kernel
theorem dL_law_185 : decode cL_law 185 = .ok (.iconst 1, 1) := by decide +kernel
theorem dL_law_186 : decode cL_law 186 = .ok (.iadd, 1) := by decide +kernel
theorem dL_law_187 : decode cL_law 187 = .ok (.iaload, 1) := by decide +kernel
theorem dL_law_188 : decode cL_law 188 = .ok (.aload_n 0, 1) := by decide +kernel
theorem dL_law_189 : decode cL_law 189 = .ok (.iload_n 3, 1) := by decide +kernel
theorem dL_law_190 : decode cL_law 190 = .ok (.iconst 2, 1) := by decide +kernel
theorem dL_law_191 : decode cL_law 191 = .ok (.iadd, 1) := by decide +kernel
theorem dL_law_192 : decode cL_law 192 = .ok (.iaload, 1) := by decide +kernel
theorem dL_law_193 : decode cL_law 193 = .ok (.invokevirtual 26, 3) := by decide +kernel
theorem dL_law_196 : decode cL_law 196 = .ok (.if_icmp .eq 344, 3) := by decide +kernel
theorem dL_law_199 : decode cL_law 199 = .ok (.iconst 0, 1) := by decide +kernel
theorem dL_law_200 : decode cL_law 200 = .ok (.ireturn, 1) := by decide +kernel
theorem dL_law_201 : decode cL_law 201 = .ok (.aload_n 1, 1) := by decide +kernel
theorem dL_law_202 : decode cL_law 202 = .ok (.aload_n 0, 1) := by decide +kernel
theorem dL_law_203 : decode cL_law 203 = .ok (.iload_n 3, 1) := by decide +kernel
theorem dL_law_204 : decode cL_law 204 = .ok (.iconst 1, 1) := by decide +kernel
theorem dL_law_205 : decode cL_law 205 = .ok (.iadd, 1) := by decide +kernel
theorem dL_law_206 : decode cL_law 206 = .ok (.iaload, 1) := by decide +kernel
theorem dL_law_207 : decode cL_law 207 = .ok (.aload_n 0, 1) := by decide +kernel
theorem dL_law_208 : decode cL_law 208 = .ok (.iload_n 3, 1) := by decide +kernel
theorem dL_law_209 : decode cL_law 209 = .ok (.iconst 2, 1) := by decide +kernel
theorem dL_law_210 : decode cL_law 210 = .ok (.iadd, 1) := by decide +kernel
theorem dL_law_211 : decode cL_law 211 = .ok (.iaload, 1) := by decide +kernel
theorem dL_law_212 : decode cL_law 212 = .ok (.invokevirtual 27, 3) := by decide +kernel
theorem dL_law_215 : decode cL_law 215 = .ok (.aload_n 2, 1) := by decide +kernel
theorem dL_law_216 : decode cL_law 216 = .ok (.aload_n 0, 1) := by decide +kernel
theorem dL_law_217 : decode cL_law 217 = .ok (.iload_n 3, 1) := by decide +kernel
theorem dL_law_218 : decode cL_law 218 = .ok (.iconst 1, 1) := by decide +kernel
theorem dL_law_219 : decode cL_law 219 = .ok (.iadd, 1) := by decide +kernel
theorem dL_law_220 : decode cL_law 220 = .ok (.iaload, 1) := by decide +kernel
theorem dL_law_221 : decode cL_law 221 = .ok (.aload_n 0, 1) := by decide +kernel
theorem dL_law_222 : decode cL_law 222 = .ok (.iload_n 3, 1) := by decide +kernel
theorem dL_law_223 : decode cL_law 223 = .ok (.iconst 2, 1) := by decide +kernel
theorem dL_law_224 : decode cL_law 224 = .ok (.iadd, 1) := by decide +kernel
theorem dL_law_225 : decode cL_law 225 = .ok (.iaload, 1) := by decide +kernel
theorem dL_law_226 : decode cL_law 226 = .ok (.invokevirtual 30, 3) := by decide +kernel
theorem dL_law_229 : decode cL_law 229 = .ok (.if_icmp .eq 311, 3) := by decide +kernel
theorem dL_law_232 : decode cL_law 232 = .ok (.iconst 0, 1) := by decide +kernel
theorem dL_law_233 : decode cL_law 233 = .ok (.ireturn, 1) := by decide +kernel
theorem dL_law_234 : decode cL_law 234 = .ok (.aload_n 1, 1) := by decide +kernel
theorem dL_law_235 : decode cL_law 235 = .ok (.invokevirtual 31, 3) := by decide +kernel
theorem dL_law_238 : decode cL_law 238 = .ok (.aload_n 2, 1) := by decide +kernel
theorem dL_law_239 : decode cL_law 239 = .ok (.invokevirtual 35, 3) := by decide +kernel
theorem dL_law_242 : decode cL_law 242 = .ok (.if_icmp .eq 298, 3) := by decide +kernel
theorem dL_law_245 : decode cL_law 245 = .ok (.iconst 0, 1) := by decide +kernel
theorem dL_law_246 : decode cL_law 246 = .ok (.ireturn, 1) := by decide +kernel
theorem dL_law_247 : decode cL_law 247 = .ok (.aload_n 1, 1) := by decide +kernel
theorem dL_law_248 : decode cL_law 248 = .ok (.aload_n 0, 1) := by decide +kernel
theorem dL_law_249 : decode cL_law 249 = .ok (.iload_n 3, 1) := by decide +kernel
theorem dL_law_250 : decode cL_law 250 = .ok (.iconst 1, 1) := by decide +kernel
theorem dL_law_251 : decode cL_law 251 = .ok (.iadd, 1) := by decide +kernel
theorem dL_law_252 : decode cL_law 252 = .ok (.iaload, 1) := by decide +kernel
theorem dL_law_253 : decode cL_law 253 = .ok (.aload_n 0, 1) := by decide +kernel
theorem dL_law_254 : decode cL_law 254 = .ok (.iload_n 3, 1) := by decide +kernel
theorem dL_law_255 : decode cL_law 255 = .ok (.iconst 2, 1) := by decide +kernel
theorem dL_law_256 : decode cL_law 256 = .ok (.iadd, 1) := by decide +kernel
theorem dL_law_257 : decode cL_law 257 = .ok (.iaload, 1) := by decide +kernel
theorem dL_law_258 : decode cL_law 258 = .ok (.aload_n 0, 1) := by decide +kernel
theorem dL_law_259 : decode cL_law 259 = .ok (.iload_n 3, 1) := by decide +kernel
theorem dL_law_260 : decode cL_law 260 = .ok (.iconst 3, 1) := by decide +kernel
theorem dL_law_261 : decode cL_law 261 = .ok (.iadd, 1) := by decide +kernel
theorem dL_law_262 : decode cL_law 262 = .ok (.iaload, 1) := by decide +kernel
theorem dL_law_263 : decode cL_law 263 = .ok (.invokevirtual 36, 3) := by decide +kernel
theorem dL_law_266 : decode cL_law 266 = .ok (.aload_n 2, 1) := by decide +kernel
theorem dL_law_267 : decode cL_law 267 = .ok (.aload_n 0, 1) := by decide +kernel
theorem dL_law_268 : decode cL_law 268 = .ok (.iload_n 3, 1) := by decide +kernel
theorem dL_law_269 : decode cL_law 269 = .ok (.iconst 1, 1) := by decide +kernel
theorem dL_law_270 : decode cL_law 270 = .ok (.iadd, 1) := by decide +kernel
theorem dL_law_271 : decode cL_law 271 = .ok (.iaload, 1) := by decide +kernel
theorem dL_law_272 : decode cL_law 272 = .ok (.aload_n 0, 1) := by decide +kernel
theorem dL_law_273 : decode cL_law 273 = .ok (.iload_n 3, 1) := by decide +kernel
theorem dL_law_274 : decode cL_law 274 = .ok (.iconst 2, 1) := by decide +kernel
theorem dL_law_275 : decode cL_law 275 = .ok (.iadd, 1) := by decide +kernel
theorem dL_law_276 : decode cL_law 276 = .ok (.iaload, 1) := by decide +kernel
theorem dL_law_277 : decode cL_law 277 = .ok (.aload_n 0, 1) := by decide +kernel
theorem dL_law_278 : decode cL_law 278 = .ok (.iload_n 3, 1) := by decide +kernel
theorem dL_law_279 : decode cL_law 279 = .ok (.iconst 3, 1) := by decide +kernel
theorem dL_law_280 : decode cL_law 280 = .ok (.iadd, 1) := by decide +kernel
theorem dL_law_281 : decode cL_law 281 = .ok (.iaload, 1) := by decide +kernel
theorem dL_law_282 : decode cL_law 282 = .ok (.invokevirtual 40, 3) := by decide +kernel
theorem dL_law_285 : decode cL_law 285 = .ok (.if_icmp .eq 255, 3) := by decide +kernel
theorem dL_law_288 : decode cL_law 288 = .ok (.iconst 0, 1) := by decide +kernel
theorem dL_law_289 : decode cL_law 289 = .ok (.ireturn, 1) := by decide +kernel
theorem dL_law_290 : decode cL_law 290 = .ok (.aload_n 1, 1) := by decide +kernel
theorem dL_law_291 : decode cL_law 291 = .ok (.invokevirtual 41, 3) := by decide +kernel
theorem dL_law_294 : decode cL_law 294 = .ok (.aload_n 2, 1) := by decide +kernel
theorem dL_law_295 : decode cL_law 295 = .ok (.invokevirtual 44, 3) := by decide +kernel
theorem dL_law_298 : decode cL_law 298 = .ok (.if_icmp .eq 242, 3) := by decide +kernel
theorem dL_law_301 : decode cL_law 301 = .ok (.iconst 0, 1) := by decide +kernel
theorem dL_law_302 : decode cL_law 302 = .ok (.ireturn, 1) := by decide +kernel
theorem dL_law_303 : decode cL_law 303 = .ok (.aload_n 1, 1) := by decide +kernel
theorem dL_law_304 : decode cL_law 304 = .ok (.aload_n 0, 1) := by decide +kernel
theorem dL_law_305 : decode cL_law 305 = .ok (.iload_n 3, 1) := by decide +kernel
theorem dL_law_306 : decode cL_law 306 = .ok (.iconst 1, 1) := by decide +kernel
theorem dL_law_307 : decode cL_law 307 = .ok (.iadd, 1) := by decide +kernel
theorem dL_law_308 : decode cL_law 308 = .ok (.iaload, 1) := by decide +kernel
theorem dL_law_309 : decode cL_law 309 = .ok (.invokevirtual 45, 3) := by decide +kernel
theorem dL_law_312 : decode cL_law 312 = .ok (.aload_n 2, 1) := by decide +kernel
theorem dL_law_313 : decode cL_law 313 = .ok (.aload_n 0, 1) := by decide +kernel
theorem dL_law_314 : decode cL_law 314 = .ok (.iload_n 3, 1) := by decide +kernel
theorem dL_law_315 : decode cL_law 315 = .ok (.iconst 1, 1) := by decide +kernel
theorem dL_law_316 : decode cL_law 316 = .ok (.iadd, 1) := by decide +kernel
theorem dL_law_317 : decode cL_law 317 = .ok (.iaload, 1) := by decide +kernel
theorem dL_law_318 : decode cL_law 318 = .ok (.invokevirtual 48, 3) := by decide +kernel
theorem dL_law_321 : decode cL_law 321 = .ok (.if_icmp .eq 219, 3) := by decide +kernel
theorem dL_law_324 : decode cL_law 324 = .ok (.iconst 0, 1) := by decide +kernel
theorem dL_law_325 : decode cL_law 325 = .ok (.ireturn, 1) := by decide +kernel
theorem dL_law_326 : decode cL_law 326 = .ok (.aload_n 1, 1) := by decide +kernel
theorem dL_law_327 : decode cL_law 327 = .ok (.aload_n 0, 1) := by decide +kernel
theorem dL_law_328 : decode cL_law 328 = .ok (.iload_n 3, 1) := by decide +kernel
theorem dL_law_329 : decode cL_law 329 = .ok (.iconst 1, 1) := by decide +kernel
theorem dL_law_330 : decode cL_law 330 = .ok (.iadd, 1) := by decide +kernel
theorem dL_law_331 : decode cL_law 331 = .ok (.iaload, 1) := by decide +kernel
theorem dL_law_332 : decode cL_law 332 = .ok (.aload_n 0, 1) := by decide +kernel
theorem dL_law_333 : decode cL_law 333 = .ok (.iload_n 3, 1) := by decide +kernel
theorem dL_law_334 : decode cL_law 334 = .ok (.iconst 2, 1) := by decide +kernel
theorem dL_law_335 : decode cL_law 335 = .ok (.iadd, 1) := by decide +kernel
theorem dL_law_336 : decode cL_law 336 = .ok (.iaload, 1) := by decide +kernel
theorem dL_law_337 : decode cL_law 337 = .ok (.invokevirtual 49, 3) := by decide +kernel
theorem dL_law_340 : decode cL_law 340 = .ok (.aload_n 2, 1) := by decide +kernel
theorem dL_law_341 : decode cL_law 341 = .ok (.aload_n 0, 1) := by decide +kernel
theorem dL_law_342 : decode cL_law 342 = .ok (.iload_n 3, 1) := by decide +kernel
theorem dL_law_343 : decode cL_law 343 = .ok (.iconst 1, 1) := by decide +kernel
theorem dL_law_344 : decode cL_law 344 = .ok (.iadd, 1) := by decide +kernel
theorem dL_law_345 : decode cL_law 345 = .ok (.iaload, 1) := by decide +kernel
theorem dL_law_346 : decode cL_law 346 = .ok (.aload_n 0, 1) := by decide +kernel
theorem dL_law_347 : decode cL_law 347 = .ok (.iload_n 3, 1) := by decide +kernel
theorem dL_law_348 : decode cL_law 348 = .ok (.iconst 2, 1) := by decide +kernel
theorem dL_law_349 : decode cL_law 349 = .ok (.iadd, 1) := by decide +kernel
theorem dL_law_350 : decode cL_law 350 = .ok (.iaload, 1) := by decide +kernel
theorem dL_law_351 : decode cL_law 351 = .ok (.invokevirtual 52, 3) := by decide +kernel
theorem dL_law_354 : decode cL_law 354 = .ok (.if_icmp .eq 186, 3) := by decide +kernel
theorem dL_law_357 : decode cL_law 357 = .ok (.iconst 0, 1) := by decide +kernel
theorem dL_law_358 : decode cL_law 358 = .ok (.ireturn, 1) := by decide +kernel
theorem dL_law_359 : decode cL_law 359 = .ok (.aload_n 1, 1) := by decide +kernel
theorem dL_law_360 : decode cL_law 360 = .ok (.aload_n 0, 1) := by decide +kernel
theorem dL_law_361 : decode cL_law 361 = .ok (.iload_n 3, 1) := by decide +kernel
theorem dL_law_362 : decode cL_law 362 = .ok (.iconst 1, 1) := by decide +kernel
theorem dL_law_363 : decode cL_law 363 = .ok (.iadd, 1) := by decide +kernel
theorem dL_law_364 : decode cL_law 364 = .ok (.iaload, 1) := by decide +kernel
theorem dL_law_365 : decode cL_law 365 = .ok (.invokevirtual 53, 3) := by decide +kernel
theorem dL_law_368 : decode cL_law 368 = .ok (.aload_n 2, 1) := by decide +kernel
theorem dL_law_369 : decode cL_law 369 = .ok (.aload_n 0, 1) := by decide +kernel
theorem dL_law_370 : decode cL_law 370 = .ok (.iload_n 3, 1) := by decide +kernel
theorem dL_law_371 : decode cL_law 371 = .ok (.iconst 1, 1) := by decide +kernel
theorem dL_law_372 : decode cL_law 372 = .ok (.iadd, 1) := by decide +kernel
theorem dL_law_373 : decode cL_law 373 = .ok (.iaload, 1) := by decide +kernel
theorem dL_law_374 : decode cL_law 374 = .ok (.invokevirtual 56, 3) := by decide +kernel
theorem dL_law_377 : decode cL_law 377 = .ok (.if_icmp .eq 163, 3) := by decide +kernel
theorem dL_law_380 : decode cL_law 380 = .ok (.iconst 0, 1) := by decide +kernel
theorem dL_law_381 : decode cL_law 381 = .ok (.ireturn, 1) := by decide +kernel
theorem dL_law_382 : decode cL_law 382 = .ok (.aload_n 1, 1) := by decide +kernel
theorem dL_law_383 : decode cL_law 383 = .ok (.aload_n 0, 1) := by decide +kernel
theorem dL_law_384 : decode cL_law 384 = .ok (.iload_n 3, 1) := by decide +kernel
theorem dL_law_385 : decode cL_law 385 = .ok (.iconst 1, 1) := by decide +kernel
theorem dL_law_386 : decode cL_law 386 = .ok (.iadd, 1) := by decide +kernel
theorem dL_law_387 : decode cL_law 387 = .ok (.iaload, 1) := by decide +kernel
theorem dL_law_388 : decode cL_law 388 = .ok (.aload_n 0, 1) := by decide +kernel
theorem dL_law_389 : decode cL_law 389 = .ok (.iload_n 3, 1) := by decide +kernel
theorem dL_law_390 : decode cL_law 390 = .ok (.iconst 2, 1) := by decide +kernel
theorem dL_law_391 : decode cL_law 391 = .ok (.iadd, 1) := by decide +kernel
theorem dL_law_392 : decode cL_law 392 = .ok (.iaload, 1) := by decide +kernel
theorem dL_law_393 : decode cL_law 393 = .ok (.invokevirtual 57, 3) := by decide +kernel
theorem dL_law_396 : decode cL_law 396 = .ok (.aload_n 2, 1) := by decide +kernel
theorem dL_law_397 : decode cL_law 397 = .ok (.aload_n 0, 1) := by decide +kernel
theorem dL_law_398 : decode cL_law 398 = .ok (.iload_n 3, 1) := by decide +kernel
theorem dL_law_399 : decode cL_law 399 = .ok (.iconst 1, 1) := by decide +kernel
theorem dL_law_400 : decode cL_law 400 = .ok (.iadd, 1) := by decide +kernel
theorem dL_law_401 : decode cL_law 401 = .ok (.iaload, 1) := by decide +kernel
theorem dL_law_402 : decode cL_law 402 = .ok (.aload_n 0, 1) := by decide +kernel
theorem dL_law_403 : decode cL_law 403 = .ok (.iload_n 3, 1) := by decide +kernel
theorem dL_law_404 : decode cL_law 404 = .ok (.iconst 2, 1) := by decide +kernel
theorem dL_law_405 : decode cL_law 405 = .ok (.iadd, 1) := by decide +kernel
theorem dL_law_406 : decode cL_law 406 = .ok (.iaload, 1) := by decide +kernel
theorem dL_law_407 : decode cL_law 407 = .ok (.invokevirtual 60, 3) := by decide +kernel
theorem dL_law_410 : decode cL_law 410 = .ok (.if_icmp .eq 130, 3) := by decide +kernel
theorem dL_law_413 : decode cL_law 413 = .ok (.iconst 0, 1) := by decide +kernel
theorem dL_law_414 : decode cL_law 414 = .ok (.ireturn, 1) := by decide +kernel
theorem dL_law_415 : decode cL_law 415 = .ok (.aload_n 1, 1) := by decide +kernel
theorem dL_law_416 : decode cL_law 416 = .ok (.aload_n 0, 1) := by decide +kernel
theorem dL_law_417 : decode cL_law 417 = .ok (.iload_n 3, 1) := by decide +kernel
theorem dL_law_418 : decode cL_law 418 = .ok (.iconst 1, 1) := by decide +kernel
theorem dL_law_419 : decode cL_law 419 = .ok (.iadd, 1) := by decide +kernel
theorem dL_law_420 : decode cL_law 420 = .ok (.iaload, 1) := by decide +kernel
theorem dL_law_421 : decode cL_law 421 = .ok (.aload_n 0, 1) := by decide +kernel
theorem dL_law_422 : decode cL_law 422 = .ok (.iload_n 3, 1) := by decide +kernel
theorem dL_law_423 : decode cL_law 423 = .ok (.iconst 2, 1) := by decide +kernel
theorem dL_law_424 : decode cL_law 424 = .ok (.iadd, 1) := by decide +kernel
theorem dL_law_425 : decode cL_law 425 = .ok (.iaload, 1) := by decide +kernel
theorem dL_law_426 : decode cL_law 426 = .ok (.invokevirtual 61, 3) := by decide +kernel
theorem dL_law_429 : decode cL_law 429 = .ok (.aload_n 2, 1) := by decide +kernel
theorem dL_law_430 : decode cL_law 430 = .ok (.aload_n 0, 1) := by decide +kernel
theorem dL_law_431 : decode cL_law 431 = .ok (.iload_n 3, 1) := by decide +kernel
theorem dL_law_432 : decode cL_law 432 = .ok (.iconst 1, 1) := by decide +kernel
theorem dL_law_433 : decode cL_law 433 = .ok (.iadd, 1) := by decide +kernel
theorem dL_law_434 : decode cL_law 434 = .ok (.iaload, 1) := by decide +kernel
theorem dL_law_435 : decode cL_law 435 = .ok (.aload_n 0, 1) := by decide +kernel
theorem dL_law_436 : decode cL_law 436 = .ok (.iload_n 3, 1) := by decide +kernel
theorem dL_law_437 : decode cL_law 437 = .ok (.iconst 2, 1) := by decide +kernel
theorem dL_law_438 : decode cL_law 438 = .ok (.iadd, 1) := by decide +kernel
theorem dL_law_439 : decode cL_law 439 = .ok (.iaload, 1) := by decide +kernel
theorem dL_law_440 : decode cL_law 440 = .ok (.invokevirtual 64, 3) := by decide +kernel
theorem dL_law_443 : decode cL_law 443 = .ok (.if_icmp .eq 97, 3) := by decide +kernel
theorem dL_law_446 : decode cL_law 446 = .ok (.iconst 0, 1) := by decide +kernel
theorem dL_law_447 : decode cL_law 447 = .ok (.ireturn, 1) := by decide +kernel
theorem dL_law_448 : decode cL_law 448 = .ok (.aload_n 1, 1) := by decide +kernel
theorem dL_law_449 : decode cL_law 449 = .ok (.invokevirtual 65, 3) := by decide +kernel
theorem dL_law_452 : decode cL_law 452 = .ok (.aload_n 2, 1) := by decide +kernel
theorem dL_law_453 : decode cL_law 453 = .ok (.invokevirtual 68, 3) := by decide +kernel
theorem dL_law_456 : decode cL_law 456 = .ok (.if_icmp .eq 84, 3) := by decide +kernel
theorem dL_law_459 : decode cL_law 459 = .ok (.iconst 0, 1) := by decide +kernel
theorem dL_law_460 : decode cL_law 460 = .ok (.ireturn, 1) := by decide +kernel
theorem dL_law_461 : decode cL_law 461 = .ok (.aload_n 1, 1) := by decide +kernel
theorem dL_law_462 : decode cL_law 462 = .ok (.aload_n 0, 1) := by decide +kernel
theorem dL_law_463 : decode cL_law 463 = .ok (.iload_n 3, 1) := by decide +kernel
theorem dL_law_464 : decode cL_law 464 = .ok (.iconst 1, 1) := by decide +kernel
theorem dL_law_465 : decode cL_law 465 = .ok (.iadd, 1) := by decide +kernel
theorem dL_law_466 : decode cL_law 466 = .ok (.iaload, 1) := by decide +kernel
theorem dL_law_467 : decode cL_law 467 = .ok (.aload_n 0, 1) := by decide +kernel
theorem dL_law_468 : decode cL_law 468 = .ok (.iload_n 3, 1) := by decide +kernel
theorem dL_law_469 : decode cL_law 469 = .ok (.iconst 2, 1) := by decide +kernel
theorem dL_law_470 : decode cL_law 470 = .ok (.iadd, 1) := by decide +kernel
theorem dL_law_471 : decode cL_law 471 = .ok (.iaload, 1) := by decide +kernel
theorem dL_law_472 : decode cL_law 472 = .ok (.aload_n 0, 1) := by decide +kernel
theorem dL_law_473 : decode cL_law 473 = .ok (.iload_n 3, 1) := by decide +kernel
theorem dL_law_474 : decode cL_law 474 = .ok (.iconst 3, 1) := by decide +kernel
theorem dL_law_475 : decode cL_law 475 = .ok (.iadd, 1) := by decide +kernel
theorem dL_law_476 : decode cL_law 476 = .ok (.iaload, 1) := by decide +kernel
theorem dL_law_477 : decode cL_law 477 = .ok (.invokevirtual 69, 3) := by decide +kernel
theorem dL_law_480 : decode cL_law 480 = .ok (.aload_n 2, 1) := by decide +kernel
theorem dL_law_481 : decode cL_law 481 = .ok (.aload_n 0, 1) := by decide +kernel
theorem dL_law_482 : decode cL_law 482 = .ok (.iload_n 3, 1) := by decide +kernel
theorem dL_law_483 : decode cL_law 483 = .ok (.iconst 1, 1) := by decide +kernel
theorem dL_law_484 : decode cL_law 484 = .ok (.iadd, 1) := by decide +kernel
theorem dL_law_485 : decode cL_law 485 = .ok (.iaload, 1) := by decide +kernel
theorem dL_law_486 : decode cL_law 486 = .ok (.aload_n 0, 1) := by decide +kernel
theorem dL_law_487 : decode cL_law 487 = .ok (.iload_n 3, 1) := by decide +kernel
theorem dL_law_488 : decode cL_law 488 = .ok (.iconst 2, 1) := by decide +kernel
theorem dL_law_489 : decode cL_law 489 = .ok (.iadd, 1) := by decide +kernel
theorem dL_law_490 : decode cL_law 490 = .ok (.iaload, 1) := by decide +kernel
theorem dL_law_491 : decode cL_law 491 = .ok (.aload_n 0, 1) := by decide +kernel
theorem dL_law_492 : decode cL_law 492 = .ok (.iload_n 3, 1) := by decide +kernel
theorem dL_law_493 : decode cL_law 493 = .ok (.iconst 3, 1) := by decide +kernel
theorem dL_law_494 : decode cL_law 494 = .ok (.iadd, 1) := by decide +kernel
theorem dL_law_495 : decode cL_law 495 = .ok (.iaload, 1) := by decide +kernel
theorem dL_law_496 : decode cL_law 496 = .ok (.invokevirtual 72, 3) := by decide +kernel
theorem dL_law_499 : decode cL_law 499 = .ok (.if_icmp .eq 41, 3) := by decide +kernel
theorem dL_law_502 : decode cL_law 502 = .ok (.iconst 0, 1) := by decide +kernel
theorem dL_law_503 : decode cL_law 503 = .ok (.ireturn, 1) := by decide +kernel
theorem dL_law_504 : decode cL_law 504 = .ok (.aload_n 1, 1) := by decide +kernel
theorem dL_law_505 : decode cL_law 505 = .ok (.aload_n 0, 1) := by decide +kernel
theorem dL_law_506 : decode cL_law 506 = .ok (.iload_n 3, 1) := by decide +kernel
theorem dL_law_507 : decode cL_law 507 = .ok (.iconst 1, 1) := by decide +kernel
theorem dL_law_508 : decode cL_law 508 = .ok (.iadd, 1) := by decide +kernel
theorem dL_law_509 : decode cL_law 509 = .ok (.iaload, 1) := by decide +kernel
theorem dL_law_510 : decode cL_law 510 = .ok (.invokevirtual 73, 3) := by decide +kernel
theorem dL_law_513 : decode cL_law 513 = .ok (.aload_n 2, 1) := by decide +kernel
theorem dL_law_514 : decode cL_law 514 = .ok (.aload_n 0, 1) := by decide +kernel
theorem dL_law_515 : decode cL_law 515 = .ok (.iload_n 3, 1) := by decide +kernel
theorem dL_law_516 : decode cL_law 516 = .ok (.iconst 1, 1) := by decide +kernel
theorem dL_law_517 : decode cL_law 517 = .ok (.iadd, 1) := by decide +kernel
theorem dL_law_518 : decode cL_law 518 = .ok (.iaload, 1) := by decide +kernel
theorem dL_law_519 : decode cL_law 519 = .ok (.invokevirtual 76, 3) := by decide +kernel
theorem dL_law_522 : decode cL_law 522 = .ok (.if_icmp .eq 18, 3) := by decide +kernel
theorem dL_law_525 : decode cL_law 525 = .ok (.iconst 0, 1) := by decide +kernel
theorem dL_law_526 : decode cL_law 526 = .ok (.ireturn, 1) := by decide +kernel
theorem dL_law_527 : decode cL_law 527 = .ok (.aload_n 1, 1) := by decide +kernel
theorem dL_law_528 : decode cL_law 528 = .ok (.invokevirtual 77, 3) := by decide +kernel
theorem dL_law_531 : decode cL_law 531 = .ok (.aload_n 2, 1) := by decide +kernel
theorem dL_law_532 : decode cL_law 532 = .ok (.invokevirtual 80, 3) := by decide +kernel
theorem dL_law_535 : decode cL_law 535 = .ok (.if_icmp .eq 5, 3) := by decide +kernel
theorem dL_law_538 : decode cL_law 538 = .ok (.iconst 0, 1) := by decide +kernel
theorem dL_law_539 : decode cL_law 539 = .ok (.ireturn, 1) := by decide +kernel
theorem dL_law_540 : decode cL_law 540 = .ok (.iinc 3 4, 3) := by decide +kernel
theorem dL_law_543 : decode cL_law 543 = .ok (.goto (-525), 3) := by decide +kernel
theorem dL_law_546 : decode cL_law 546 = .ok (.iconst 1, 1) := by decide +kernel
theorem dL_law_547 : decode cL_law 547 = .ok (.ireturn, 1) := by decide +kernel
