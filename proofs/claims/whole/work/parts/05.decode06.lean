theorem de_M_perform_88 : decode bc_M_perform 88 = .ok (.iconst 3, 1) := by decide +kernel
theorem de_M_perform_89 : decode bc_M_perform 89 = .ok (.iastore, 1) := by decide +kernel
theorem de_M_perform_90 : decode bc_M_perform 90 = .ok (.iconst 0, 1) := by decide +kernel
theorem de_M_perform_91 : decode bc_M_perform 91 = .ok (.ireturn, 1) := by decide +kernel
theorem de_M_perform_92 : decode bc_M_perform 92 = .ok (.aload_n 0, 1) := by decide +kernel
theorem de_M_perform_93 : decode bc_M_perform 93 = .ok (.iload_n 1, 1) := by decide +kernel
theorem de_M_perform_94 : decode bc_M_perform 94 = .ok (.iload_n 3, 1) := by decide +kernel
theorem de_M_perform_95 : decode bc_M_perform 95 = .ok (.aload_n 0, 1) := by decide +kernel
theorem de_M_perform_96 : decode bc_M_perform 96 = .ok (.getfield 47, 3) := by decide +kernel
theorem de_M_perform_99 : decode bc_M_perform 99 = .ok (.iload_n 2, 1) := by decide +kernel
theorem de_M_perform_100 : decode bc_M_perform 100 = .ok (.iaload, 1) := by decide +kernel
theorem de_M_perform_101 : decode bc_M_perform 101 = .ok (.invokevirtual 149, 3) := by decide +kernel
theorem de_M_perform_104 : decode bc_M_perform 104 = .ok (.ireturn, 1) := by decide +kernel
theorem de_M_perform_105 : decode bc_M_perform 105 = .ok (.aload_n 0, 1) := by decide +kernel
theorem de_M_perform_106 : decode bc_M_perform 106 = .ok (.iload_n 1, 1) := by decide +kernel
theorem de_M_perform_107 : decode bc_M_perform 107 = .ok (.iload_n 3, 1) := by decide +kernel
theorem de_M_perform_108 : decode bc_M_perform 108 = .ok (.aload_n 0, 1) := by decide +kernel
theorem de_M_perform_109 : decode bc_M_perform 109 = .ok (.getfield 47, 3) := by decide +kernel
theorem de_M_perform_112 : decode bc_M_perform 112 = .ok (.iload_n 2, 1) := by decide +kernel
theorem de_M_perform_113 : decode bc_M_perform 113 = .ok (.iaload, 1) := by decide +kernel
theorem de_M_perform_114 : decode bc_M_perform 114 = .ok (.invokevirtual 152, 3) := by decide +kernel
theorem de_M_perform_117 : decode bc_M_perform 117 = .ok (.iconst 1, 1) := by decide +kernel
theorem de_M_perform_118 : decode bc_M_perform 118 = .ok (.ireturn, 1) := by decide +kernel
theorem de_M_perform_119 : decode bc_M_perform 119 = .ok (.aload_n 0, 1) := by decide +kernel
theorem de_M_perform_120 : decode bc_M_perform 120 = .ok (.iload_n 3, 1) := by decide +kernel
theorem de_M_perform_121 : decode bc_M_perform 121 = .ok (.iconst 0, 1) := by decide +kernel
theorem de_M_perform_122 : decode bc_M_perform 122 = .ok (.invokevirtual 155, 3) := by decide +kernel
theorem de_M_perform_125 : decode bc_M_perform 125 = .ok (.pop, 1) := by decide +kernel
theorem de_M_perform_126 : decode bc_M_perform 126 = .ok (.iconst 1, 1) := by decide +kernel
theorem de_M_perform_127 : decode bc_M_perform 127 = .ok (.ireturn, 1) := by decide +kernel
theorem de_M_perform_128 : decode bc_M_perform 128 = .ok (.aload_n 0, 1) := by decide +kernel
theorem de_M_perform_129 : decode bc_M_perform 129 = .ok (.iload_n 3, 1) := by decide +kernel
theorem de_M_perform_130 : decode bc_M_perform 130 = .ok (.invokevirtual 140, 3) := by decide +kernel
theorem de_M_perform_133 : decode bc_M_perform 133 = .ok (.pop, 1) := by decide +kernel
theorem de_M_perform_134 : decode bc_M_perform 134 = .ok (.iconst 1, 1) := by decide +kernel
theorem de_M_perform_135 : decode bc_M_perform 135 = .ok (.ireturn, 1) := by decide +kernel
theorem de_M_perform_136 : decode bc_M_perform 136 = .ok (.aload_n 0, 1) := by decide +kernel
theorem de_M_perform_137 : decode bc_M_perform 137 = .ok (.iload_n 3, 1) := by decide +kernel
theorem de_M_perform_138 : decode bc_M_perform 138 = .ok (.invokevirtual 158, 3) := by decide +kernel
theorem de_M_perform_141 : decode bc_M_perform 141 = .ok (.pop, 1) := by decide +kernel
theorem de_M_perform_142 : decode bc_M_perform 142 = .ok (.aload_n 0, 1) := by decide +kernel
theorem de_M_perform_143 : decode bc_M_perform 143 = .ok (.getfield 25, 3) := by decide +kernel
theorem de_M_perform_146 : decode bc_M_perform 146 = .ok (.iload_n 1, 1) := by decide +kernel
theorem de_M_perform_147 : decode bc_M_perform 147 = .ok (.iaload, 1) := by decide +kernel
theorem de_M_perform_148 : decode bc_M_perform 148 = .ok (.bipush 7, 2) := by decide +kernel
theorem de_M_perform_150 : decode bc_M_perform 150 = .ok (.if_icmp .eq 7, 3) := by decide +kernel
theorem de_M_perform_153 : decode bc_M_perform 153 = .ok (.iconst 1, 1) := by decide +kernel
theorem de_M_perform_154 : decode bc_M_perform 154 = .ok (.goto 4, 3) := by decide +kernel
theorem de_M_perform_157 : decode bc_M_perform 157 = .ok (.iconst 0, 1) := by decide +kernel
theorem de_M_perform_158 : decode bc_M_perform 158 = .ok (.ireturn, 1) := by decide +kernel
theorem de_M_perform_159 : decode bc_M_perform 159 = .ok (.aload_n 0, 1) := by decide +kernel
theorem de_M_perform_160 : decode bc_M_perform 160 = .ok (.iload_n 2, 1) := by decide +kernel
theorem de_M_perform_161 : decode bc_M_perform 161 = .ok (.invokevirtual 143, 3) := by decide +kernel
theorem de_M_perform_164 : decode bc_M_perform 164 = .ok (.ifCond .eq 10, 3) := by decide +kernel
theorem de_M_perform_167 : decode bc_M_perform 167 = .ok (.aload_n 0, 1) := by decide +kernel
theorem de_M_perform_168 : decode bc_M_perform 168 = .ok (.iload_n 2, 1) := by decide +kernel
theorem de_M_perform_169 : decode bc_M_perform 169 = .ok (.invokevirtual 146, 3) := by decide +kernel
theorem de_M_perform_172 : decode bc_M_perform 172 = .ok (.iconst 1, 1) := by decide +kernel
theorem de_M_perform_173 : decode bc_M_perform 173 = .ok (.ireturn, 1) := by decide +kernel
theorem de_M_perform_174 : decode bc_M_perform 174 = .ok (.aload_n 0, 1) := by decide +kernel
theorem de_M_perform_175 : decode bc_M_perform 175 = .ok (.getfield 25, 3) := by decide +kernel
theorem de_M_perform_178 : decode bc_M_perform 178 = .ok (.iload_n 1, 1) := by decide +kernel
theorem de_M_perform_179 : decode bc_M_perform 179 = .ok (.iconst 5, 1) := by decide +kernel
theorem de_M_perform_180 : decode bc_M_perform 180 = .ok (.iastore, 1) := by decide +kernel
theorem de_M_perform_181 : decode bc_M_perform 181 = .ok (.aload_n 0, 1) := by decide +kernel
theorem de_M_perform_182 : decode bc_M_perform 182 = .ok (.getfield 35, 3) := by decide +kernel
theorem de_M_perform_185 : decode bc_M_perform 185 = .ok (.iload_n 1, 1) := by decide +kernel
theorem de_M_perform_186 : decode bc_M_perform 186 = .ok (.aload_n 0, 1) := by decide +kernel
theorem de_M_perform_187 : decode bc_M_perform 187 = .ok (.getfield 134, 3) := by decide +kernel
theorem de_M_perform_190 : decode bc_M_perform 190 = .ok (.iastore, 1) := by decide +kernel
theorem de_M_perform_191 : decode bc_M_perform 191 = .ok (.aload_n 0, 1) := by decide +kernel
theorem de_M_perform_192 : decode bc_M_perform 192 = .ok (.dup, 1) := by decide +kernel
theorem de_M_perform_193 : decode bc_M_perform 193 = .ok (.getfield 134, 3) := by decide +kernel
theorem de_M_perform_196 : decode bc_M_perform 196 = .ok (.iconst 1, 1) := by decide +kernel
theorem de_M_perform_197 : decode bc_M_perform 197 = .ok (.iadd, 1) := by decide +kernel
theorem de_M_perform_198 : decode bc_M_perform 198 = .ok (.putfield 134, 3) := by decide +kernel
theorem de_M_perform_201 : decode bc_M_perform 201 = .ok (.iconst 0, 1) := by decide +kernel
theorem de_M_perform_202 : decode bc_M_perform 202 = .ok (.ireturn, 1) := by decide +kernel
theorem de_M_turn_0 : decode bc_M_turn 0 = .ok (.iconst 0, 1) := by decide +kernel
theorem de_M_turn_1 : decode bc_M_turn 1 = .ok (.istore_n 2, 1) := by decide +kernel
theorem de_M_turn_2 : decode bc_M_turn 2 = .ok (.iload_n 2, 1) := by decide +kernel
theorem de_M_turn_3 : decode bc_M_turn 3 = .ok (.sipush 200, 3) := by decide +kernel
theorem de_M_turn_6 : decode bc_M_turn 6 = .ok (.if_icmp .ge 83, 3) := by decide +kernel
theorem de_M_turn_9 : decode bc_M_turn 9 = .ok (.aload_n 0, 1) := by decide +kernel
theorem de_M_turn_10 : decode bc_M_turn 10 = .ok (.getfield 22, 3) := by decide +kernel
theorem de_M_turn_13 : decode bc_M_turn 13 = .ok (.iload_n 1, 1) := by decide +kernel
theorem de_M_turn_14 : decode bc_M_turn 14 = .ok (.iaload, 1) := by decide +kernel
theorem de_M_turn_15 : decode bc_M_turn 15 = .ok (.aload_n 0, 1) := by decide +kernel
theorem de_M_turn_16 : decode bc_M_turn 16 = .ok (.getfield 19, 3) := by decide +kernel
theorem de_M_turn_19 : decode bc_M_turn 19 = .ok (.iload_n 1, 1) := by decide +kernel
theorem de_M_turn_20 : decode bc_M_turn 20 = .ok (.iaload, 1) := by decide +kernel
theorem de_M_turn_21 : decode bc_M_turn 21 = .ok (.if_icmp .ge 27, 3) := by decide +kernel
theorem de_M_turn_24 : decode bc_M_turn 24 = .ok (.aload_n 0, 1) := by decide +kernel
theorem de_M_turn_25 : decode bc_M_turn 25 = .ok (.getfield 22, 3) := by decide +kernel
theorem de_M_turn_28 : decode bc_M_turn 28 = .ok (.iload_n 1, 1) := by decide +kernel
theorem de_M_turn_29 : decode bc_M_turn 29 = .ok (.dup2, 1) := by decide +kernel
theorem de_M_turn_30 : decode bc_M_turn 30 = .ok (.iaload, 1) := by decide +kernel
theorem de_M_turn_31 : decode bc_M_turn 31 = .ok (.iconst 1, 1) := by decide +kernel
theorem de_M_turn_32 : decode bc_M_turn 32 = .ok (.iadd, 1) := by decide +kernel
theorem de_M_turn_33 : decode bc_M_turn 33 = .ok (.iastore, 1) := by decide +kernel
theorem de_M_turn_34 : decode bc_M_turn 34 = .ok (.aload_n 0, 1) := by decide +kernel
theorem de_M_turn_35 : decode bc_M_turn 35 = .ok (.iload_n 1, 1) := by decide +kernel
theorem de_M_turn_36 : decode bc_M_turn 36 = .ok (.aload_n 0, 1) := by decide +kernel
theorem de_M_turn_37 : decode bc_M_turn 37 = .ok (.iload_n 1, 1) := by decide +kernel
theorem de_M_turn_38 : decode bc_M_turn 38 = .ok (.invokevirtual 109, 3) := by decide +kernel
theorem de_M_turn_41 : decode bc_M_turn 41 = .ok (.invokevirtual 161, 3) := by decide +kernel
theorem de_M_turn_44 : decode bc_M_turn 44 = .ok (.ifCond .ne 39, 3) := by decide +kernel
theorem de_M_turn_47 : decode bc_M_turn 47 = .ok (.return_, 1) := by decide +kernel
theorem de_M_turn_48 : decode bc_M_turn 48 = .ok (.aload_n 0, 1) := by decide +kernel
theorem de_M_turn_49 : decode bc_M_turn 49 = .ok (.getfield 13, 3) := by decide +kernel
theorem de_M_turn_52 : decode bc_M_turn 52 = .ok (.iload_n 1, 1) := by decide +kernel
theorem de_M_turn_53 : decode bc_M_turn 53 = .ok (.dup2, 1) := by decide +kernel
theorem de_M_turn_54 : decode bc_M_turn 54 = .ok (.iaload, 1) := by decide +kernel
theorem de_M_turn_55 : decode bc_M_turn 55 = .ok (.iconst 1, 1) := by decide +kernel
theorem de_M_turn_56 : decode bc_M_turn 56 = .ok (.isub, 1) := by decide +kernel
theorem de_M_turn_57 : decode bc_M_turn 57 = .ok (.iastore, 1) := by decide +kernel
theorem de_M_turn_58 : decode bc_M_turn 58 = .ok (.aload_n 0, 1) := by decide +kernel
theorem de_M_turn_59 : decode bc_M_turn 59 = .ok (.getfield 13, 3) := by decide +kernel
theorem de_M_turn_62 : decode bc_M_turn 62 = .ok (.iload_n 1, 1) := by decide +kernel
theorem de_M_turn_63 : decode bc_M_turn 63 = .ok (.iaload, 1) := by decide +kernel
theorem de_M_turn_64 : decode bc_M_turn 64 = .ok (.ifCond .ne 12, 3) := by decide +kernel
theorem de_M_turn_67 : decode bc_M_turn 67 = .ok (.aload_n 0, 1) := by decide +kernel
theorem de_M_turn_68 : decode bc_M_turn 68 = .ok (.getfield 25, 3) := by decide +kernel
theorem de_M_turn_71 : decode bc_M_turn 71 = .ok (.iload_n 1, 1) := by decide +kernel
theorem de_M_turn_72 : decode bc_M_turn 72 = .ok (.bipush 6, 2) := by decide +kernel
theorem de_M_turn_74 : decode bc_M_turn 74 = .ok (.iastore, 1) := by decide +kernel
theorem de_M_turn_75 : decode bc_M_turn 75 = .ok (.return_, 1) := by decide +kernel
theorem de_M_turn_76 : decode bc_M_turn 76 = .ok (.aload_n 0, 1) := by decide +kernel
theorem de_M_turn_77 : decode bc_M_turn 77 = .ok (.getfield 22, 3) := by decide +kernel
theorem de_M_turn_80 : decode bc_M_turn 80 = .ok (.iload_n 1, 1) := by decide +kernel
theorem de_M_turn_81 : decode bc_M_turn 81 = .ok (.iconst 0, 1) := by decide +kernel
theorem de_M_turn_82 : decode bc_M_turn 82 = .ok (.iastore, 1) := by decide +kernel
theorem de_M_turn_83 : decode bc_M_turn 83 = .ok (.iinc 2 1, 3) := by decide +kernel
theorem de_M_turn_86 : decode bc_M_turn 86 = .ok (.goto (-84), 3) := by decide +kernel
theorem de_M_turn_89 : decode bc_M_turn 89 = .ok (.return_, 1) := by decide +kernel
theorem de_M_advance_0 : decode bc_M_advance 0 = .ok (.iconst 0, 1) := by decide +kernel
theorem de_M_advance_1 : decode bc_M_advance 1 = .ok (.istore_n 3, 1) := by decide +kernel
theorem de_M_advance_2 : decode bc_M_advance 2 = .ok (.iload_n 3, 1) := by decide +kernel
theorem de_M_advance_3 : decode bc_M_advance 3 = .ok (.iconst 4, 1) := by decide +kernel
theorem de_M_advance_4 : decode bc_M_advance 4 = .ok (.if_icmp .ge 31, 3) := by decide +kernel
theorem de_M_advance_7 : decode bc_M_advance 7 = .ok (.aload_n 0, 1) := by decide +kernel
theorem de_M_advance_8 : decode bc_M_advance 8 = .ok (.getfield 60, 3) := by decide +kernel
theorem de_M_advance_11 : decode bc_M_advance 11 = .ok (.iload_n 3, 1) := by decide +kernel
theorem de_M_advance_12 : decode bc_M_advance 12 = .ok (.dup2, 1) := by decide +kernel
theorem de_M_advance_13 : decode bc_M_advance 13 = .ok (.laload, 1) := by decide +kernel
theorem de_M_advance_14 : decode bc_M_advance 14 = .ok (.aload_n 0, 1) := by decide +kernel
theorem de_M_advance_15 : decode bc_M_advance 15 = .ok (.iload_n 3, 1) := by decide +kernel
theorem de_M_advance_16 : decode bc_M_advance 16 = .ok (.invokevirtual 94, 3) := by decide +kernel
theorem de_M_advance_19 : decode bc_M_advance 19 = .ok (.i2l, 1) := by decide +kernel
theorem de_M_advance_20 : decode bc_M_advance 20 = .ok (.lload_n 1, 1) := by decide +kernel
theorem de_M_advance_21 : decode bc_M_advance 21 = .ok (.aload_n 0, 1) := by decide +kernel
theorem de_M_advance_22 : decode bc_M_advance 22 = .ok (.getfield 118, 3) := by decide +kernel
theorem de_M_advance_25 : decode bc_M_advance 25 = .ok (.lsub, 1) := by decide +kernel
theorem de_M_advance_26 : decode bc_M_advance 26 = .ok (.lmul, 1) := by decide +kernel
theorem de_M_advance_27 : decode bc_M_advance 27 = .ok (.ladd, 1) := by decide +kernel
theorem de_M_advance_28 : decode bc_M_advance 28 = .ok (.lastore, 1) := by decide +kernel
theorem de_M_advance_29 : decode bc_M_advance 29 = .ok (.iinc 3 1, 3) := by decide +kernel
theorem de_M_advance_32 : decode bc_M_advance 32 = .ok (.goto (-30), 3) := by decide +kernel
theorem de_M_advance_35 : decode bc_M_advance 35 = .ok (.aload_n 0, 1) := by decide +kernel
theorem de_M_advance_36 : decode bc_M_advance 36 = .ok (.lload_n 1, 1) := by decide +kernel
theorem de_M_advance_37 : decode bc_M_advance 37 = .ok (.putfield 118, 3) := by decide +kernel
theorem de_M_advance_40 : decode bc_M_advance 40 = .ok (.return_, 1) := by decide +kernel
theorem de_M_event_0 : decode bc_M_event 0 = .ok (.aload_n 0, 1) := by decide +kernel
theorem de_M_event_1 : decode bc_M_event 1 = .ok (.aload_n 0, 1) := by decide +kernel
theorem de_M_event_2 : decode bc_M_event 2 = .ok (.getfield 28, 3) := by decide +kernel
theorem de_M_event_5 : decode bc_M_event 5 = .ok (.iload_n 1, 1) := by decide +kernel
theorem de_M_event_6 : decode bc_M_event 6 = .ok (.laload, 1) := by decide +kernel
theorem de_M_event_7 : decode bc_M_event 7 = .ok (.invokevirtual 164, 3) := by decide +kernel
theorem de_M_event_10 : decode bc_M_event 10 = .ok (.bipush 63, 2) := by decide +kernel
theorem de_M_event_12 : decode bc_M_event 12 = .ok (.istore_n 2, 1) := by decide +kernel
theorem de_M_event_13 : decode bc_M_event 13 = .ok (.iload_n 2, 1) := by decide +kernel
theorem de_M_event_14 : decode bc_M_event 14 = .ok (.ifCond .le 23, 3) := by decide +kernel
theorem de_M_event_17 : decode bc_M_event 17 = .ok (.aload_n 0, 1) := by decide +kernel
theorem de_M_event_18 : decode bc_M_event 18 = .ok (.getfield 75, 3) := by decide +kernel
theorem de_M_event_21 : decode bc_M_event 21 = .ok (.iload_n 2, 1) := by decide +kernel
theorem de_M_event_22 : decode bc_M_event 22 = .ok (.aload_n 0, 1) := by decide +kernel
theorem de_M_event_23 : decode bc_M_event 23 = .ok (.getfield 75, 3) := by decide +kernel
theorem de_M_event_26 : decode bc_M_event 26 = .ok (.iload_n 2, 1) := by decide +kernel
theorem de_M_event_27 : decode bc_M_event 27 = .ok (.iconst 1, 1) := by decide +kernel
theorem de_M_event_28 : decode bc_M_event 28 = .ok (.isub, 1) := by decide +kernel
theorem de_M_event_29 : decode bc_M_event 29 = .ok (.iaload, 1) := by decide +kernel
theorem de_M_event_30 : decode bc_M_event 30 = .ok (.iastore, 1) := by decide +kernel
theorem de_M_event_31 : decode bc_M_event 31 = .ok (.iinc 2 (-1), 3) := by decide +kernel
theorem de_M_event_34 : decode bc_M_event 34 = .ok (.goto (-21), 3) := by decide +kernel
theorem de_M_event_37 : decode bc_M_event 37 = .ok (.aload_n 0, 1) := by decide +kernel
theorem de_M_event_38 : decode bc_M_event 38 = .ok (.getfield 75, 3) := by decide +kernel
theorem de_M_event_41 : decode bc_M_event 41 = .ok (.iconst 0, 1) := by decide +kernel
theorem de_M_event_42 : decode bc_M_event 42 = .ok (.iload_n 1, 1) := by decide +kernel
theorem de_M_event_43 : decode bc_M_event 43 = .ok (.bipush 16, 2) := by decide +kernel
theorem de_M_event_45 : decode bc_M_event 45 = .ok (.aload_n 0, 1) := by decide +kernel
theorem de_M_event_46 : decode bc_M_event 46 = .ok (.getfield 22, 3) := by decide +kernel
theorem de_M_event_49 : decode bc_M_event 49 = .ok (.iload_n 1, 1) := by decide +kernel
theorem de_M_event_50 : decode bc_M_event 50 = .ok (.iaload, 1) := by decide +kernel
theorem de_M_event_51 : decode bc_M_event 51 = .ok (.imul, 1) := by decide +kernel
theorem de_M_event_52 : decode bc_M_event 52 = .ok (.iadd, 1) := by decide +kernel
theorem de_M_event_53 : decode bc_M_event 53 = .ok (.iastore, 1) := by decide +kernel
theorem de_M_event_54 : decode bc_M_event 54 = .ok (.aload_n 0, 1) := by decide +kernel
theorem de_M_event_55 : decode bc_M_event 55 = .ok (.dup, 1) := by decide +kernel
theorem de_M_event_56 : decode bc_M_event 56 = .ok (.getfield 168, 3) := by decide +kernel
theorem de_M_event_59 : decode bc_M_event 59 = .ok (.iconst 1, 1) := by decide +kernel
theorem de_M_event_60 : decode bc_M_event 60 = .ok (.iadd, 1) := by decide +kernel
theorem de_M_event_61 : decode bc_M_event 61 = .ok (.putfield 168, 3) := by decide +kernel
theorem de_M_event_64 : decode bc_M_event 64 = .ok (.aload_n 0, 1) := by decide +kernel
theorem de_M_event_65 : decode bc_M_event 65 = .ok (.getfield 32, 3) := by decide +kernel
theorem de_M_event_68 : decode bc_M_event 68 = .ok (.iload_n 1, 1) := by decide +kernel
theorem de_M_event_69 : decode bc_M_event 69 = .ok (.iconst (-1), 1) := by decide +kernel
theorem de_M_event_70 : decode bc_M_event 70 = .ok (.iastore, 1) := by decide +kernel
theorem de_M_event_71 : decode bc_M_event 71 = .ok (.aload_n 0, 1) := by decide +kernel
theorem de_M_event_72 : decode bc_M_event 72 = .ok (.getfield 25, 3) := by decide +kernel
theorem de_M_event_75 : decode bc_M_event 75 = .ok (.iload_n 1, 1) := by decide +kernel
theorem de_M_event_76 : decode bc_M_event 76 = .ok (.iconst 1, 1) := by decide +kernel
theorem de_M_event_77 : decode bc_M_event 77 = .ok (.iastore, 1) := by decide +kernel
theorem de_M_event_78 : decode bc_M_event 78 = .ok (.aload_n 0, 1) := by decide +kernel
theorem de_M_event_79 : decode bc_M_event 79 = .ok (.iload_n 1, 1) := by decide +kernel
theorem de_M_event_80 : decode bc_M_event 80 = .ok (.invokevirtual 171, 3) := by decide +kernel
theorem de_M_event_83 : decode bc_M_event 83 = .ok (.aload_n 0, 1) := by decide +kernel
theorem de_M_event_84 : decode bc_M_event 84 = .ok (.invokevirtual 174, 3) := by decide +kernel
theorem de_M_event_87 : decode bc_M_event 87 = .ok (.return_, 1) := by decide +kernel
theorem de_M_run_0 : decode bc_M_run 0 = .ok (.iload_n 1, 1) := by decide +kernel
theorem de_M_run_1 : decode bc_M_run 1 = .ok (.ifCond .lt 26, 3) := by decide +kernel
theorem de_M_run_4 : decode bc_M_run 4 = .ok (.iload_n 1, 1) := by decide +kernel
theorem de_M_run_5 : decode bc_M_run 5 = .ok (.bipush 100, 2) := by decide +kernel
theorem de_M_run_7 : decode bc_M_run 7 = .ok (.if_icmp .gt 20, 3) := by decide +kernel
theorem de_M_run_10 : decode bc_M_run 10 = .ok (.lload_n 2, 1) := by decide +kernel
theorem de_M_run_11 : decode bc_M_run 11 = .ok (.aload_n 0, 1) := by decide +kernel
theorem de_M_run_12 : decode bc_M_run 12 = .ok (.getfield 118, 3) := by decide +kernel
theorem de_M_run_15 : decode bc_M_run 15 = .ok (.lcmp, 1) := by decide +kernel
theorem de_M_run_16 : decode bc_M_run 16 = .ok (.ifCond .lt 11, 3) := by decide +kernel
theorem de_M_run_19 : decode bc_M_run 19 = .ok (.lload_n 2, 1) := by decide +kernel
theorem de_M_run_20 : decode bc_M_run 20 = .ok (.ldc2_w 177, 3) := by decide +kernel
theorem de_M_run_23 : decode bc_M_run 23 = .ok (.lcmp, 1) := by decide +kernel
theorem de_M_run_24 : decode bc_M_run 24 = .ok (.ifCond .le 5, 3) := by decide +kernel
theorem de_M_run_27 : decode bc_M_run 27 = .ok (.iconst (-1), 1) := by decide +kernel
theorem de_M_run_28 : decode bc_M_run 28 = .ok (.ireturn, 1) := by decide +kernel
theorem de_M_run_29 : decode bc_M_run 29 = .ok (.iconst 0, 1) := by decide +kernel
theorem de_M_run_30 : decode bc_M_run 30 = .ok (.istore 4, 2) := by decide +kernel
theorem de_M_run_32 : decode bc_M_run 32 = .ok (.aload_n 0, 1) := by decide +kernel
theorem de_M_run_33 : decode bc_M_run 33 = .ok (.invokevirtual 179, 3) := by decide +kernel
theorem de_M_run_36 : decode bc_M_run 36 = .ok (.istore 5, 2) := by decide +kernel
theorem de_M_run_38 : decode bc_M_run 38 = .ok (.iload 4, 2) := by decide +kernel
theorem de_M_run_40 : decode bc_M_run 40 = .ok (.iload_n 1, 1) := by decide +kernel
theorem de_M_run_41 : decode bc_M_run 41 = .ok (.if_icmp .ge 38, 3) := by decide +kernel
theorem de_M_run_44 : decode bc_M_run 44 = .ok (.iload 5, 2) := by decide +kernel
theorem de_M_run_46 : decode bc_M_run 46 = .ok (.ifCond .lt 33, 3) := by decide +kernel
theorem de_M_run_49 : decode bc_M_run 49 = .ok (.aload_n 0, 1) := by decide +kernel
theorem de_M_run_50 : decode bc_M_run 50 = .ok (.getfield 28, 3) := by decide +kernel
theorem de_M_run_53 : decode bc_M_run 53 = .ok (.iload 5, 2) := by decide +kernel
theorem de_M_run_55 : decode bc_M_run 55 = .ok (.laload, 1) := by decide +kernel
theorem de_M_run_56 : decode bc_M_run 56 = .ok (.lload_n 2, 1) := by decide +kernel
theorem de_M_run_57 : decode bc_M_run 57 = .ok (.lcmp, 1) := by decide +kernel
theorem de_M_run_58 : decode bc_M_run 58 = .ok (.ifCond .gt 21, 3) := by decide +kernel
theorem de_M_run_61 : decode bc_M_run 61 = .ok (.aload_n 0, 1) := by decide +kernel
theorem de_M_run_62 : decode bc_M_run 62 = .ok (.iload 5, 2) := by decide +kernel
theorem de_M_run_64 : decode bc_M_run 64 = .ok (.invokevirtual 183, 3) := by decide +kernel
theorem de_M_run_67 : decode bc_M_run 67 = .ok (.iinc 4 1, 3) := by decide +kernel
theorem de_M_run_70 : decode bc_M_run 70 = .ok (.aload_n 0, 1) := by decide +kernel
theorem de_M_run_71 : decode bc_M_run 71 = .ok (.invokevirtual 179, 3) := by decide +kernel
theorem de_M_run_74 : decode bc_M_run 74 = .ok (.istore 5, 2) := by decide +kernel
theorem de_M_run_76 : decode bc_M_run 76 = .ok (.goto (-38), 3) := by decide +kernel
theorem de_M_run_79 : decode bc_M_run 79 = .ok (.iload 4, 2) := by decide +kernel
theorem de_M_run_81 : decode bc_M_run 81 = .ok (.iload_n 1, 1) := by decide +kernel
theorem de_M_run_82 : decode bc_M_run 82 = .ok (.if_icmp .ge 8, 3) := by decide +kernel
theorem de_M_run_85 : decode bc_M_run 85 = .ok (.aload_n 0, 1) := by decide +kernel
theorem de_M_run_86 : decode bc_M_run 86 = .ok (.lload_n 2, 1) := by decide +kernel
theorem de_M_run_87 : decode bc_M_run 87 = .ok (.invokevirtual 164, 3) := by decide +kernel
theorem de_M_run_90 : decode bc_M_run 90 = .ok (.iload 4, 2) := by decide +kernel
theorem de_M_run_92 : decode bc_M_run 92 = .ok (.ireturn, 1) := by decide +kernel
theorem de_M_now_0 : decode bc_M_now 0 = .ok (.aload_n 0, 1) := by decide +kernel
theorem de_M_now_1 : decode bc_M_now 1 = .ok (.getfield 118, 3) := by decide +kernel
theorem de_M_now_4 : decode bc_M_now 4 = .ok (.lreturn, 1) := by decide +kernel
theorem de_M_next_0 : decode bc_M_next 0 = .ok (.aload_n 0, 1) := by decide +kernel
theorem de_M_next_1 : decode bc_M_next 1 = .ok (.invokevirtual 179, 3) := by decide +kernel
theorem de_M_next_4 : decode bc_M_next 4 = .ok (.istore_n 1, 1) := by decide +kernel
theorem de_M_next_5 : decode bc_M_next 5 = .ok (.iload_n 1, 1) := by decide +kernel
theorem de_M_next_6 : decode bc_M_next 6 = .ok (.ifCond .ge 9, 3) := by decide +kernel
theorem de_M_next_9 : decode bc_M_next 9 = .ok (.ldc2_w 186, 3) := by decide +kernel
theorem de_M_next_12 : decode bc_M_next 12 = .ok (.goto 9, 3) := by decide +kernel
theorem de_M_next_15 : decode bc_M_next 15 = .ok (.aload_n 0, 1) := by decide +kernel
theorem de_M_next_16 : decode bc_M_next 16 = .ok (.getfield 28, 3) := by decide +kernel
theorem de_M_next_19 : decode bc_M_next 19 = .ok (.iload_n 1, 1) := by decide +kernel
theorem de_M_next_20 : decode bc_M_next 20 = .ok (.laload, 1) := by decide +kernel
theorem de_M_next_21 : decode bc_M_next 21 = .ok (.lreturn, 1) := by decide +kernel
theorem de_M_state_0 : decode bc_M_state 0 = .ok (.aload_n 0, 1) := by decide +kernel
theorem de_M_state_1 : decode bc_M_state 1 = .ok (.iload_n 1, 1) := by decide +kernel
theorem de_M_state_2 : decode bc_M_state 2 = .ok (.invokevirtual 87, 3) := by decide +kernel
theorem de_M_state_5 : decode bc_M_state 5 = .ok (.ifCond .eq 7, 3) := by decide +kernel
theorem de_M_state_8 : decode bc_M_state 8 = .ok (.iconst (-1), 1) := by decide +kernel
theorem de_M_state_9 : decode bc_M_state 9 = .ok (.goto 9, 3) := by decide +kernel
theorem de_M_state_12 : decode bc_M_state 12 = .ok (.aload_n 0, 1) := by decide +kernel
theorem de_M_state_13 : decode bc_M_state 13 = .ok (.getfield 25, 3) := by decide +kernel
theorem de_M_state_16 : decode bc_M_state 16 = .ok (.iload_n 1, 1) := by decide +kernel
theorem de_M_state_17 : decode bc_M_state 17 = .ok (.iaload, 1) := by decide +kernel
theorem de_M_state_18 : decode bc_M_state 18 = .ok (.ireturn, 1) := by decide +kernel
theorem de_M_place_0 : decode bc_M_place 0 = .ok (.aload_n 0, 1) := by decide +kernel
theorem de_M_place_1 : decode bc_M_place 1 = .ok (.iload_n 1, 1) := by decide +kernel
theorem de_M_place_2 : decode bc_M_place 2 = .ok (.invokevirtual 87, 3) := by decide +kernel
theorem de_M_place_5 : decode bc_M_place 5 = .ok (.ifCond .eq 7, 3) := by decide +kernel
theorem de_M_place_8 : decode bc_M_place 8 = .ok (.iconst (-1), 1) := by decide +kernel
theorem de_M_place_9 : decode bc_M_place 9 = .ok (.goto 9, 3) := by decide +kernel
theorem de_M_place_12 : decode bc_M_place 12 = .ok (.aload_n 0, 1) := by decide +kernel
theorem de_M_place_13 : decode bc_M_place 13 = .ok (.getfield 22, 3) := by decide +kernel
theorem de_M_place_16 : decode bc_M_place 16 = .ok (.iload_n 1, 1) := by decide +kernel
theorem de_M_place_17 : decode bc_M_place 17 = .ok (.iaload, 1) := by decide +kernel
theorem de_M_place_18 : decode bc_M_place 18 = .ok (.ireturn, 1) := by decide +kernel
theorem de_M_held_0 : decode bc_M_held 0 = .ok (.aload_n 0, 1) := by decide +kernel
theorem de_M_held_1 : decode bc_M_held 1 = .ok (.iload_n 1, 1) := by decide +kernel
theorem de_M_held_2 : decode bc_M_held 2 = .ok (.invokevirtual 87, 3) := by decide +kernel
theorem de_M_held_5 : decode bc_M_held 5 = .ok (.ifCond .ne 13, 3) := by decide +kernel
theorem de_M_held_8 : decode bc_M_held 8 = .ok (.aload_n 0, 1) := by decide +kernel
theorem de_M_held_9 : decode bc_M_held 9 = .ok (.iload_n 2, 1) := by decide +kernel
theorem de_M_held_10 : decode bc_M_held 10 = .ok (.iconst 0, 1) := by decide +kernel
theorem de_M_held_11 : decode bc_M_held 11 = .ok (.iconst 3, 1) := by decide +kernel
theorem de_M_held_12 : decode bc_M_held 12 = .ok (.invokevirtual 83, 3) := by decide +kernel
theorem de_M_held_15 : decode bc_M_held 15 = .ok (.ifCond .ne 7, 3) := by decide +kernel
theorem de_M_held_18 : decode bc_M_held 18 = .ok (.iconst (-1), 1) := by decide +kernel
theorem de_M_held_19 : decode bc_M_held 19 = .ok (.goto 13, 3) := by decide +kernel
theorem de_M_held_22 : decode bc_M_held 22 = .ok (.aload_n 0, 1) := by decide +kernel
theorem de_M_held_23 : decode bc_M_held 23 = .ok (.getfield 50, 3) := by decide +kernel
theorem de_M_held_26 : decode bc_M_held 26 = .ok (.iconst 4, 1) := by decide +kernel
theorem de_M_held_27 : decode bc_M_held 27 = .ok (.iload_n 1, 1) := by decide +kernel
theorem de_M_held_28 : decode bc_M_held 28 = .ok (.imul, 1) := by decide +kernel
theorem de_M_held_29 : decode bc_M_held 29 = .ok (.iload_n 2, 1) := by decide +kernel
theorem de_M_held_30 : decode bc_M_held 30 = .ok (.iadd, 1) := by decide +kernel
theorem de_M_held_31 : decode bc_M_held 31 = .ok (.iaload, 1) := by decide +kernel
theorem de_M_held_32 : decode bc_M_held 32 = .ok (.ireturn, 1) := by decide +kernel
theorem de_M_free_0 : decode bc_M_free 0 = .ok (.aload_n 0, 1) := by decide +kernel
theorem de_M_free_1 : decode bc_M_free 1 = .ok (.iload_n 1, 1) := by decide +kernel
theorem de_M_free_2 : decode bc_M_free 2 = .ok (.iconst 0, 1) := by decide +kernel
theorem de_M_free_3 : decode bc_M_free 3 = .ok (.iconst 3, 1) := by decide +kernel
theorem de_M_free_4 : decode bc_M_free 4 = .ok (.invokevirtual 83, 3) := by decide +kernel
theorem de_M_free_7 : decode bc_M_free 7 = .ok (.ifCond .eq 11, 3) := by decide +kernel
theorem de_M_free_10 : decode bc_M_free 10 = .ok (.aload_n 0, 1) := by decide +kernel
theorem de_M_free_11 : decode bc_M_free 11 = .ok (.iload_n 1, 1) := by decide +kernel
theorem de_M_free_12 : decode bc_M_free 12 = .ok (.invokevirtual 115, 3) := by decide +kernel
theorem de_M_free_15 : decode bc_M_free 15 = .ok (.goto 4, 3) := by decide +kernel
theorem de_M_free_18 : decode bc_M_free 18 = .ok (.iconst (-1), 1) := by decide +kernel
theorem de_M_free_19 : decode bc_M_free 19 = .ok (.ireturn, 1) := by decide +kernel
theorem de_M_waiting_0 : decode bc_M_waiting 0 = .ok (.aload_n 0, 1) := by decide +kernel
theorem de_M_waiting_1 : decode bc_M_waiting 1 = .ok (.iload_n 1, 1) := by decide +kernel
theorem de_M_waiting_2 : decode bc_M_waiting 2 = .ok (.iconst 0, 1) := by decide +kernel
theorem de_M_waiting_3 : decode bc_M_waiting 3 = .ok (.iconst 4, 1) := by decide +kernel
theorem de_M_waiting_4 : decode bc_M_waiting 4 = .ok (.invokevirtual 83, 3) := by decide +kernel
theorem de_M_waiting_7 : decode bc_M_waiting 7 = .ok (.ifCond .ne 5, 3) := by decide +kernel
theorem de_M_waiting_10 : decode bc_M_waiting 10 = .ok (.iconst (-1), 1) := by decide +kernel
theorem de_M_waiting_11 : decode bc_M_waiting 11 = .ok (.ireturn, 1) := by decide +kernel
theorem de_M_waiting_12 : decode bc_M_waiting 12 = .ok (.iconst 0, 1) := by decide +kernel
theorem de_M_waiting_13 : decode bc_M_waiting 13 = .ok (.istore_n 2, 1) := by decide +kernel
theorem de_M_waiting_14 : decode bc_M_waiting 14 = .ok (.iconst 0, 1) := by decide +kernel
theorem de_M_waiting_15 : decode bc_M_waiting 15 = .ok (.istore_n 3, 1) := by decide +kernel
theorem de_M_waiting_16 : decode bc_M_waiting 16 = .ok (.iload_n 3, 1) := by decide +kernel
theorem de_M_waiting_17 : decode bc_M_waiting 17 = .ok (.aload_n 0, 1) := by decide +kernel
theorem de_M_waiting_18 : decode bc_M_waiting 18 = .ok (.getfield 78, 3) := by decide +kernel
theorem de_M_waiting_21 : decode bc_M_waiting 21 = .ok (.if_icmp .ge 76, 3) := by decide +kernel
theorem de_M_waiting_24 : decode bc_M_waiting 24 = .ok (.iload_n 1, 1) := by decide +kernel
theorem de_M_waiting_25 : decode bc_M_waiting 25 = .ok (.iconst 4, 1) := by decide +kernel
theorem de_M_waiting_26 : decode bc_M_waiting 26 = .ok (.if_icmp .ne 21, 3) := by decide +kernel
theorem de_M_waiting_29 : decode bc_M_waiting 29 = .ok (.aload_n 0, 1) := by decide +kernel
theorem de_M_waiting_30 : decode bc_M_waiting 30 = .ok (.getfield 25, 3) := by decide +kernel
theorem de_M_waiting_33 : decode bc_M_waiting 33 = .ok (.iload_n 3, 1) := by decide +kernel
theorem de_M_waiting_34 : decode bc_M_waiting 34 = .ok (.iaload, 1) := by decide +kernel
theorem de_M_waiting_35 : decode bc_M_waiting 35 = .ok (.iconst 5, 1) := by decide +kernel
theorem de_M_waiting_36 : decode bc_M_waiting 36 = .ok (.if_icmp .ne 7, 3) := by decide +kernel
theorem de_M_waiting_39 : decode bc_M_waiting 39 = .ok (.iconst 1, 1) := by decide +kernel
theorem de_M_waiting_40 : decode bc_M_waiting 40 = .ok (.goto 36, 3) := by decide +kernel
theorem de_M_waiting_43 : decode bc_M_waiting 43 = .ok (.iconst 0, 1) := by decide +kernel
theorem de_M_waiting_44 : decode bc_M_waiting 44 = .ok (.goto 32, 3) := by decide +kernel
theorem de_M_waiting_47 : decode bc_M_waiting 47 = .ok (.aload_n 0, 1) := by decide +kernel
theorem de_M_waiting_48 : decode bc_M_waiting 48 = .ok (.getfield 25, 3) := by decide +kernel
theorem de_M_waiting_51 : decode bc_M_waiting 51 = .ok (.iload_n 3, 1) := by decide +kernel
theorem de_M_waiting_52 : decode bc_M_waiting 52 = .ok (.iaload, 1) := by decide +kernel
theorem de_M_waiting_53 : decode bc_M_waiting 53 = .ok (.iconst 4, 1) := by decide +kernel
theorem de_M_waiting_54 : decode bc_M_waiting 54 = .ok (.if_icmp .ne 21, 3) := by decide +kernel
theorem de_M_waiting_57 : decode bc_M_waiting 57 = .ok (.aload_n 0, 1) := by decide +kernel
theorem de_M_waiting_58 : decode bc_M_waiting 58 = .ok (.getfield 44, 3) := by decide +kernel
theorem de_M_waiting_61 : decode bc_M_waiting 61 = .ok (.aload_n 0, 1) := by decide +kernel
theorem de_M_waiting_62 : decode bc_M_waiting 62 = .ok (.iload_n 3, 1) := by decide +kernel
theorem de_M_waiting_63 : decode bc_M_waiting 63 = .ok (.invokevirtual 109, 3) := by decide +kernel
theorem de_M_waiting_66 : decode bc_M_waiting 66 = .ok (.iaload, 1) := by decide +kernel
theorem de_M_waiting_67 : decode bc_M_waiting 67 = .ok (.iload_n 1, 1) := by decide +kernel
theorem de_M_waiting_68 : decode bc_M_waiting 68 = .ok (.if_icmp .ne 7, 3) := by decide +kernel
theorem de_M_waiting_71 : decode bc_M_waiting 71 = .ok (.iconst 1, 1) := by decide +kernel
theorem de_M_waiting_72 : decode bc_M_waiting 72 = .ok (.goto 4, 3) := by decide +kernel
theorem de_M_waiting_75 : decode bc_M_waiting 75 = .ok (.iconst 0, 1) := by decide +kernel
theorem de_M_waiting_76 : decode bc_M_waiting 76 = .ok (.istore 4, 2) := by decide +kernel
theorem de_M_waiting_78 : decode bc_M_waiting 78 = .ok (.iload_n 2, 1) := by decide +kernel
theorem de_M_waiting_79 : decode bc_M_waiting 79 = .ok (.iload 4, 2) := by decide +kernel
theorem de_M_waiting_81 : decode bc_M_waiting 81 = .ok (.ifCond .eq 7, 3) := by decide +kernel
theorem de_M_waiting_84 : decode bc_M_waiting 84 = .ok (.iconst 1, 1) := by decide +kernel
theorem de_M_waiting_85 : decode bc_M_waiting 85 = .ok (.goto 4, 3) := by decide +kernel
theorem de_M_waiting_88 : decode bc_M_waiting 88 = .ok (.iconst 0, 1) := by decide +kernel
theorem de_M_waiting_89 : decode bc_M_waiting 89 = .ok (.iadd, 1) := by decide +kernel
theorem de_M_waiting_90 : decode bc_M_waiting 90 = .ok (.istore_n 2, 1) := by decide +kernel
theorem de_M_waiting_91 : decode bc_M_waiting 91 = .ok (.iinc 3 1, 3) := by decide +kernel
theorem de_M_waiting_94 : decode bc_M_waiting 94 = .ok (.goto (-78), 3) := by decide +kernel
theorem de_M_waiting_97 : decode bc_M_waiting 97 = .ok (.iload_n 2, 1) := by decide +kernel
theorem de_M_waiting_98 : decode bc_M_waiting 98 = .ok (.ireturn, 1) := by decide +kernel
theorem de_M_area_0 : decode bc_M_area 0 = .ok (.aload_n 0, 1) := by decide +kernel
theorem de_M_area_1 : decode bc_M_area 1 = .ok (.iload_n 1, 1) := by decide +kernel
theorem de_M_area_2 : decode bc_M_area 2 = .ok (.iconst 0, 1) := by decide +kernel
theorem de_M_area_3 : decode bc_M_area 3 = .ok (.iconst 3, 1) := by decide +kernel
theorem de_M_area_4 : decode bc_M_area 4 = .ok (.invokevirtual 83, 3) := by decide +kernel
theorem de_M_area_7 : decode bc_M_area 7 = .ok (.ifCond .eq 12, 3) := by decide +kernel
theorem de_M_area_10 : decode bc_M_area 10 = .ok (.aload_n 0, 1) := by decide +kernel
theorem de_M_area_11 : decode bc_M_area 11 = .ok (.getfield 60, 3) := by decide +kernel
theorem de_M_area_14 : decode bc_M_area 14 = .ok (.iload_n 1, 1) := by decide +kernel
theorem de_M_area_15 : decode bc_M_area 15 = .ok (.laload, 1) := by decide +kernel
theorem de_M_area_16 : decode bc_M_area 16 = .ok (.goto 6, 3) := by decide +kernel
theorem de_M_area_19 : decode bc_M_area 19 = .ok (.ldc2_w 186, 3) := by decide +kernel
theorem de_M_area_22 : decode bc_M_area 22 = .ok (.lreturn, 1) := by decide +kernel
theorem de_M_waited_0 : decode bc_M_waited 0 = .ok (.aload_n 0, 1) := by decide +kernel
theorem de_M_waited_1 : decode bc_M_waited 1 = .ok (.iload_n 1, 1) := by decide +kernel
theorem de_M_waited_2 : decode bc_M_waited 2 = .ok (.iconst 0, 1) := by decide +kernel
theorem de_M_waited_3 : decode bc_M_waited 3 = .ok (.iconst 3, 1) := by decide +kernel
theorem de_M_waited_4 : decode bc_M_waited 4 = .ok (.invokevirtual 83, 3) := by decide +kernel
theorem de_M_waited_7 : decode bc_M_waited 7 = .ok (.ifCond .eq 12, 3) := by decide +kernel
theorem de_M_waited_10 : decode bc_M_waited 10 = .ok (.aload_n 0, 1) := by decide +kernel
theorem de_M_waited_11 : decode bc_M_waited 11 = .ok (.getfield 63, 3) := by decide +kernel
theorem de_M_waited_14 : decode bc_M_waited 14 = .ok (.iload_n 1, 1) := by decide +kernel
theorem de_M_waited_15 : decode bc_M_waited 15 = .ok (.laload, 1) := by decide +kernel
theorem de_M_waited_16 : decode bc_M_waited 16 = .ok (.goto 6, 3) := by decide +kernel
theorem de_M_waited_19 : decode bc_M_waited 19 = .ok (.ldc2_w 186, 3) := by decide +kernel
theorem de_M_waited_22 : decode bc_M_waited 22 = .ok (.lreturn, 1) := by decide +kernel
theorem de_M_level_0 : decode bc_M_level 0 = .ok (.aload_n 0, 1) := by decide +kernel
theorem de_M_level_1 : decode bc_M_level 1 = .ok (.iload_n 1, 1) := by decide +kernel
theorem de_M_level_2 : decode bc_M_level 2 = .ok (.iconst 0, 1) := by decide +kernel
theorem de_M_level_3 : decode bc_M_level 3 = .ok (.iconst 3, 1) := by decide +kernel
theorem de_M_level_4 : decode bc_M_level 4 = .ok (.invokevirtual 83, 3) := by decide +kernel
theorem de_M_level_7 : decode bc_M_level 7 = .ok (.ifCond .eq 12, 3) := by decide +kernel
theorem de_M_level_10 : decode bc_M_level 10 = .ok (.aload_n 0, 1) := by decide +kernel
theorem de_M_level_11 : decode bc_M_level 11 = .ok (.getfield 69, 3) := by decide +kernel
theorem de_M_level_14 : decode bc_M_level 14 = .ok (.iload_n 1, 1) := by decide +kernel
theorem de_M_level_15 : decode bc_M_level 15 = .ok (.iaload, 1) := by decide +kernel
theorem de_M_level_16 : decode bc_M_level 16 = .ok (.goto 4, 3) := by decide +kernel
theorem de_M_level_19 : decode bc_M_level 19 = .ok (.iconst (-1), 1) := by decide +kernel
theorem de_M_level_20 : decode bc_M_level 20 = .ok (.ireturn, 1) := by decide +kernel
theorem de_M_stuck_0 : decode bc_M_stuck 0 = .ok (.iconst 0, 1) := by decide +kernel
theorem de_M_stuck_1 : decode bc_M_stuck 1 = .ok (.istore_n 1, 1) := by decide +kernel
theorem de_M_stuck_2 : decode bc_M_stuck 2 = .ok (.iconst 0, 1) := by decide +kernel
theorem de_M_stuck_3 : decode bc_M_stuck 3 = .ok (.istore_n 2, 1) := by decide +kernel
theorem de_M_stuck_4 : decode bc_M_stuck 4 = .ok (.iload_n 2, 1) := by decide +kernel
theorem de_M_stuck_5 : decode bc_M_stuck 5 = .ok (.aload_n 0, 1) := by decide +kernel
theorem de_M_stuck_6 : decode bc_M_stuck 6 = .ok (.getfield 78, 3) := by decide +kernel
theorem de_M_stuck_9 : decode bc_M_stuck 9 = .ok (.if_icmp .ge 39, 3) := by decide +kernel
theorem de_M_stuck_12 : decode bc_M_stuck 12 = .ok (.iload_n 1, 1) := by decide +kernel
theorem de_M_stuck_13 : decode bc_M_stuck 13 = .ok (.ifCond .ne 23, 3) := by decide +kernel
theorem de_M_stuck_16 : decode bc_M_stuck 16 = .ok (.aload_n 0, 1) := by decide +kernel
theorem de_M_stuck_17 : decode bc_M_stuck 17 = .ok (.getfield 25, 3) := by decide +kernel
theorem de_M_stuck_20 : decode bc_M_stuck 20 = .ok (.iload_n 2, 1) := by decide +kernel
theorem de_M_stuck_21 : decode bc_M_stuck 21 = .ok (.iaload, 1) := by decide +kernel
theorem de_M_stuck_22 : decode bc_M_stuck 22 = .ok (.iconst 4, 1) := by decide +kernel
theorem de_M_stuck_23 : decode bc_M_stuck 23 = .ok (.if_icmp .eq 13, 3) := by decide +kernel
theorem de_M_stuck_26 : decode bc_M_stuck 26 = .ok (.aload_n 0, 1) := by decide +kernel
theorem de_M_stuck_27 : decode bc_M_stuck 27 = .ok (.getfield 25, 3) := by decide +kernel
theorem de_M_stuck_30 : decode bc_M_stuck 30 = .ok (.iload_n 2, 1) := by decide +kernel
theorem de_M_stuck_31 : decode bc_M_stuck 31 = .ok (.iaload, 1) := by decide +kernel
theorem de_M_stuck_32 : decode bc_M_stuck 32 = .ok (.iconst 5, 1) := by decide +kernel
theorem de_M_stuck_33 : decode bc_M_stuck 33 = .ok (.if_icmp .ne 7, 3) := by decide +kernel
theorem de_M_stuck_36 : decode bc_M_stuck 36 = .ok (.iconst 1, 1) := by decide +kernel
theorem de_M_stuck_37 : decode bc_M_stuck 37 = .ok (.goto 4, 3) := by decide +kernel
theorem de_M_stuck_40 : decode bc_M_stuck 40 = .ok (.iconst 0, 1) := by decide +kernel
theorem de_M_stuck_41 : decode bc_M_stuck 41 = .ok (.istore_n 1, 1) := by decide +kernel
theorem de_M_stuck_42 : decode bc_M_stuck 42 = .ok (.iinc 2 1, 3) := by decide +kernel
theorem de_M_stuck_45 : decode bc_M_stuck 45 = .ok (.goto (-41), 3) := by decide +kernel
theorem de_M_stuck_48 : decode bc_M_stuck 48 = .ok (.iload_n 1, 1) := by decide +kernel
theorem de_M_stuck_49 : decode bc_M_stuck 49 = .ok (.ifCond .eq 14, 3) := by decide +kernel
theorem de_M_stuck_52 : decode bc_M_stuck 52 = .ok (.aload_n 0, 1) := by decide +kernel
theorem de_M_stuck_53 : decode bc_M_stuck 53 = .ok (.invokevirtual 179, 3) := by decide +kernel
theorem de_M_stuck_56 : decode bc_M_stuck 56 = .ok (.ifCond .ge 7, 3) := by decide +kernel
theorem de_M_stuck_59 : decode bc_M_stuck 59 = .ok (.iconst 1, 1) := by decide +kernel
theorem de_M_stuck_60 : decode bc_M_stuck 60 = .ok (.goto 4, 3) := by decide +kernel
theorem de_M_stuck_63 : decode bc_M_stuck 63 = .ok (.iconst 0, 1) := by decide +kernel
theorem de_M_stuck_64 : decode bc_M_stuck 64 = .ok (.ireturn, 1) := by decide +kernel
theorem de_M_traced_0 : decode bc_M_traced 0 = .ok (.aload_n 0, 1) := by decide +kernel
theorem de_M_traced_1 : decode bc_M_traced 1 = .ok (.iload_n 1, 1) := by decide +kernel
theorem de_M_traced_2 : decode bc_M_traced 2 = .ok (.iconst 0, 1) := by decide +kernel
theorem de_M_traced_3 : decode bc_M_traced 3 = .ok (.bipush 63, 2) := by decide +kernel
theorem de_M_traced_5 : decode bc_M_traced 5 = .ok (.invokevirtual 83, 3) := by decide +kernel
theorem de_M_traced_8 : decode bc_M_traced 8 = .ok (.ifCond .eq 20, 3) := by decide +kernel
theorem de_M_traced_11 : decode bc_M_traced 11 = .ok (.iload_n 1, 1) := by decide +kernel
theorem de_M_traced_12 : decode bc_M_traced 12 = .ok (.aload_n 0, 1) := by decide +kernel
theorem de_M_traced_13 : decode bc_M_traced 13 = .ok (.getfield 168, 3) := by decide +kernel
theorem de_M_traced_16 : decode bc_M_traced 16 = .ok (.if_icmp .ge 12, 3) := by decide +kernel
theorem de_M_traced_19 : decode bc_M_traced 19 = .ok (.aload_n 0, 1) := by decide +kernel
theorem de_M_traced_20 : decode bc_M_traced 20 = .ok (.getfield 75, 3) := by decide +kernel
theorem de_M_traced_23 : decode bc_M_traced 23 = .ok (.iload_n 1, 1) := by decide +kernel
theorem de_M_traced_24 : decode bc_M_traced 24 = .ok (.iaload, 1) := by decide +kernel
theorem de_M_traced_25 : decode bc_M_traced 25 = .ok (.goto 4, 3) := by decide +kernel
theorem de_M_traced_28 : decode bc_M_traced 28 = .ok (.iconst (-1), 1) := by decide +kernel
theorem de_M_traced_29 : decode bc_M_traced 29 = .ok (.ireturn, 1) := by decide +kernel
