theorem de_K_perform_177 : decode bc_K_perform 177 = .ok (.aload_n 0, 1) := by decide +kernel
theorem de_K_perform_178 : decode bc_K_perform 178 = .ok (.iload_n 2, 1) := by decide +kernel
theorem de_K_perform_179 : decode bc_K_perform 179 = .ok (.invokevirtual 245, 3) := by decide +kernel
theorem de_K_perform_182 : decode bc_K_perform 182 = .ok (.pop, 1) := by decide +kernel
theorem de_K_perform_183 : decode bc_K_perform 183 = .ok (.iconst 1, 1) := by decide +kernel
theorem de_K_perform_184 : decode bc_K_perform 184 = .ok (.ireturn, 1) := by decide +kernel
theorem de_K_perform_185 : decode bc_K_perform 185 = .ok (.aload_n 0, 1) := by decide +kernel
theorem de_K_perform_186 : decode bc_K_perform 186 = .ok (.iload_n 2, 1) := by decide +kernel
theorem de_K_perform_187 : decode bc_K_perform 187 = .ok (.invokevirtual 248, 3) := by decide +kernel
theorem de_K_perform_190 : decode bc_K_perform 190 = .ok (.pop, 1) := by decide +kernel
theorem de_K_perform_191 : decode bc_K_perform 191 = .ok (.aload_n 1, 1) := by decide +kernel
theorem de_K_perform_192 : decode bc_K_perform 192 = .ok (.getfield 84, 3) := by decide +kernel
theorem de_K_perform_195 : decode bc_K_perform 195 = .ok (.bipush 7, 2) := by decide +kernel
theorem de_K_perform_197 : decode bc_K_perform 197 = .ok (.if_icmp .eq 7, 3) := by decide +kernel
theorem de_K_perform_200 : decode bc_K_perform 200 = .ok (.iconst 1, 1) := by decide +kernel
theorem de_K_perform_201 : decode bc_K_perform 201 = .ok (.goto 4, 3) := by decide +kernel
theorem de_K_perform_204 : decode bc_K_perform 204 = .ok (.iconst 0, 1) := by decide +kernel
theorem de_K_perform_205 : decode bc_K_perform 205 = .ok (.ireturn, 1) := by decide +kernel
theorem de_K_perform_206 : decode bc_K_perform 206 = .ok (.iconst 1, 1) := by decide +kernel
theorem de_K_perform_207 : decode bc_K_perform 207 = .ok (.ireturn, 1) := by decide +kernel
theorem de_P_beginRound_0 : decode bc_P_beginRound 0 = .ok (.aload_n 0, 1) := by decide +kernel
theorem de_P_beginRound_1 : decode bc_P_beginRound 1 = .ok (.dup, 1) := by decide +kernel
theorem de_P_beginRound_2 : decode bc_P_beginRound 2 = .ok (.getfield 31, 3) := by decide +kernel
theorem de_P_beginRound_5 : decode bc_P_beginRound 5 = .ok (.iconst 1, 1) := by decide +kernel
theorem de_P_beginRound_6 : decode bc_P_beginRound 6 = .ok (.isub, 1) := by decide +kernel
theorem de_P_beginRound_7 : decode bc_P_beginRound 7 = .ok (.putfield 31, 3) := by decide +kernel
theorem de_P_beginRound_10 : decode bc_P_beginRound 10 = .ok (.aload_n 0, 1) := by decide +kernel
theorem de_P_beginRound_11 : decode bc_P_beginRound 11 = .ok (.getfield 31, 3) := by decide +kernel
theorem de_P_beginRound_14 : decode bc_P_beginRound 14 = .ok (.ifCond .gt 11, 3) := by decide +kernel
theorem de_P_beginRound_17 : decode bc_P_beginRound 17 = .ok (.aload_n 0, 1) := by decide +kernel
theorem de_P_beginRound_18 : decode bc_P_beginRound 18 = .ok (.bipush 6, 2) := by decide +kernel
theorem de_P_beginRound_20 : decode bc_P_beginRound 20 = .ok (.putfield 37, 3) := by decide +kernel
theorem de_P_beginRound_23 : decode bc_P_beginRound 23 = .ok (.iconst 0, 1) := by decide +kernel
theorem de_P_beginRound_24 : decode bc_P_beginRound 24 = .ok (.ireturn, 1) := by decide +kernel
theorem de_P_beginRound_25 : decode bc_P_beginRound 25 = .ok (.aload_n 0, 1) := by decide +kernel
theorem de_P_beginRound_26 : decode bc_P_beginRound 26 = .ok (.iconst 0, 1) := by decide +kernel
theorem de_P_beginRound_27 : decode bc_P_beginRound 27 = .ok (.putfield 40, 3) := by decide +kernel
theorem de_P_beginRound_30 : decode bc_P_beginRound 30 = .ok (.iconst 1, 1) := by decide +kernel
theorem de_P_beginRound_31 : decode bc_P_beginRound 31 = .ok (.ireturn, 1) := by decide +kernel
theorem de_K_doTurn_0 : decode bc_K_doTurn 0 = .ok (.iconst 1, 1) := by decide +kernel
theorem de_K_doTurn_1 : decode bc_K_doTurn 1 = .ok (.istore_n 2, 1) := by decide +kernel
theorem de_K_doTurn_2 : decode bc_K_doTurn 2 = .ok (.iconst 0, 1) := by decide +kernel
theorem de_K_doTurn_3 : decode bc_K_doTurn 3 = .ok (.istore_n 3, 1) := by decide +kernel
theorem de_K_doTurn_4 : decode bc_K_doTurn 4 = .ok (.iload_n 2, 1) := by decide +kernel
theorem de_K_doTurn_5 : decode bc_K_doTurn 5 = .ok (.ifCond .eq 39, 3) := by decide +kernel
theorem de_K_doTurn_8 : decode bc_K_doTurn 8 = .ok (.iload_n 3, 1) := by decide +kernel
theorem de_K_doTurn_9 : decode bc_K_doTurn 9 = .ok (.bipush 99, 2) := by decide +kernel
theorem de_K_doTurn_11 : decode bc_K_doTurn 11 = .ok (.if_icmp .ge 33, 3) := by decide +kernel
theorem de_K_doTurn_14 : decode bc_K_doTurn 14 = .ok (.aload_n 1, 1) := by decide +kernel
theorem de_K_doTurn_15 : decode bc_K_doTurn 15 = .ok (.getfield 134, 3) := by decide +kernel
theorem de_K_doTurn_18 : decode bc_K_doTurn 18 = .ok (.aload_n 1, 1) := by decide +kernel
theorem de_K_doTurn_19 : decode bc_K_doTurn 19 = .ok (.getfield 87, 3) := by decide +kernel
theorem de_K_doTurn_22 : decode bc_K_doTurn 22 = .ok (.if_icmp .ge 11, 3) := by decide +kernel
theorem de_K_doTurn_25 : decode bc_K_doTurn 25 = .ok (.aload_n 0, 1) := by decide +kernel
theorem de_K_doTurn_26 : decode bc_K_doTurn 26 = .ok (.aload_n 1, 1) := by decide +kernel
theorem de_K_doTurn_27 : decode bc_K_doTurn 27 = .ok (.invokevirtual 211, 3) := by decide +kernel
theorem de_K_doTurn_30 : decode bc_K_doTurn 30 = .ok (.goto 7, 3) := by decide +kernel
theorem de_K_doTurn_33 : decode bc_K_doTurn 33 = .ok (.aload_n 1, 1) := by decide +kernel
theorem de_K_doTurn_34 : decode bc_K_doTurn 34 = .ok (.invokevirtual 214, 3) := by decide +kernel
theorem de_K_doTurn_37 : decode bc_K_doTurn 37 = .ok (.istore_n 2, 1) := by decide +kernel
theorem de_K_doTurn_38 : decode bc_K_doTurn 38 = .ok (.iinc 3 1, 3) := by decide +kernel
theorem de_K_doTurn_41 : decode bc_K_doTurn 41 = .ok (.goto (-37), 3) := by decide +kernel
theorem de_K_doTurn_44 : decode bc_K_doTurn 44 = .ok (.return_, 1) := by decide +kernel
theorem de_K_goOverConditions_0 : decode bc_K_goOverConditions 0 = .ok (.iconst 0, 1) := by decide +kernel
theorem de_K_goOverConditions_1 : decode bc_K_goOverConditions 1 = .ok (.istore_n 1, 1) := by decide +kernel
theorem de_K_goOverConditions_2 : decode bc_K_goOverConditions 2 = .ok (.aload_n 0, 1) := by decide +kernel
theorem de_K_goOverConditions_3 : decode bc_K_goOverConditions 3 = .ok (.getfield 30, 3) := by decide +kernel
theorem de_K_goOverConditions_6 : decode bc_K_goOverConditions 6 = .ok (.getfield 182, 3) := by decide +kernel
theorem de_K_goOverConditions_9 : decode bc_K_goOverConditions 9 = .ok (.istore_n 2, 1) := by decide +kernel
theorem de_K_goOverConditions_10 : decode bc_K_goOverConditions 10 = .ok (.iload_n 2, 1) := by decide +kernel
theorem de_K_goOverConditions_11 : decode bc_K_goOverConditions 11 = .ok (.ifCond .le 56, 3) := by decide +kernel
theorem de_K_goOverConditions_14 : decode bc_K_goOverConditions 14 = .ok (.aload_n 0, 1) := by decide +kernel
theorem de_K_goOverConditions_15 : decode bc_K_goOverConditions 15 = .ok (.getfield 11, 3) := by decide +kernel
theorem de_K_goOverConditions_18 : decode bc_K_goOverConditions 18 = .ok (.aload_n 0, 1) := by decide +kernel
theorem de_K_goOverConditions_19 : decode bc_K_goOverConditions 19 = .ok (.getfield 30, 3) := by decide +kernel
theorem de_K_goOverConditions_22 : decode bc_K_goOverConditions 22 = .ok (.getfield 251, 3) := by decide +kernel
theorem de_K_goOverConditions_25 : decode bc_K_goOverConditions 25 = .ok (.iload_n 1, 1) := by decide +kernel
theorem de_K_goOverConditions_26 : decode bc_K_goOverConditions 26 = .ok (.iaload, 1) := by decide +kernel
theorem de_K_goOverConditions_27 : decode bc_K_goOverConditions 27 = .ok (.aaload, 1) := by decide +kernel
theorem de_K_goOverConditions_28 : decode bc_K_goOverConditions 28 = .ok (.astore_n 3, 1) := by decide +kernel
theorem de_K_goOverConditions_29 : decode bc_K_goOverConditions 29 = .ok (.aload_n 0, 1) := by decide +kernel
theorem de_K_goOverConditions_30 : decode bc_K_goOverConditions 30 = .ok (.aload_n 3, 1) := by decide +kernel
theorem de_K_goOverConditions_31 : decode bc_K_goOverConditions 31 = .ok (.invokevirtual 235, 3) := by decide +kernel
theorem de_K_goOverConditions_34 : decode bc_K_goOverConditions 34 = .ok (.ifCond .eq 24, 3) := by decide +kernel
theorem de_K_goOverConditions_37 : decode bc_K_goOverConditions 37 = .ok (.aload_n 0, 1) := by decide +kernel
theorem de_K_goOverConditions_38 : decode bc_K_goOverConditions 38 = .ok (.getfield 30, 3) := by decide +kernel
theorem de_K_goOverConditions_41 : decode bc_K_goOverConditions 41 = .ok (.aload_n 3, 1) := by decide +kernel
theorem de_K_goOverConditions_42 : decode bc_K_goOverConditions 42 = .ok (.getfield 74, 3) := by decide +kernel
theorem de_K_goOverConditions_45 : decode bc_K_goOverConditions 45 = .ok (.invokevirtual 287, 3) := by decide +kernel
theorem de_K_goOverConditions_48 : decode bc_K_goOverConditions 48 = .ok (.aload_n 0, 1) := by decide +kernel
theorem de_K_goOverConditions_49 : decode bc_K_goOverConditions 49 = .ok (.aload_n 3, 1) := by decide +kernel
theorem de_K_goOverConditions_50 : decode bc_K_goOverConditions 50 = .ok (.iconst 1, 1) := by decide +kernel
theorem de_K_goOverConditions_51 : decode bc_K_goOverConditions 51 = .ok (.iconst 0, 1) := by decide +kernel
theorem de_K_goOverConditions_52 : decode bc_K_goOverConditions 52 = .ok (.invokevirtual 118, 3) := by decide +kernel
theorem de_K_goOverConditions_55 : decode bc_K_goOverConditions 55 = .ok (.goto 6, 3) := by decide +kernel
theorem de_K_goOverConditions_58 : decode bc_K_goOverConditions 58 = .ok (.iinc 1 1, 3) := by decide +kernel
theorem de_K_goOverConditions_61 : decode bc_K_goOverConditions 61 = .ok (.iinc 2 (-1), 3) := by decide +kernel
theorem de_K_goOverConditions_64 : decode bc_K_goOverConditions 64 = .ok (.goto (-54), 3) := by decide +kernel
theorem de_K_goOverConditions_67 : decode bc_K_goOverConditions 67 = .ok (.return_, 1) := by decide +kernel
theorem de_K_run_0 : decode bc_K_run 0 = .ok (.iload_n 1, 1) := by decide +kernel
theorem de_K_run_1 : decode bc_K_run 1 = .ok (.iconst 0, 1) := by decide +kernel
theorem de_K_run_2 : decode bc_K_run 2 = .ok (.bipush 100, 2) := by decide +kernel
theorem de_K_run_4 : decode bc_K_run 4 = .ok (.invokestatic 61, 3) := by decide +kernel
theorem de_K_run_7 : decode bc_K_run 7 = .ok (.ifCond .eq 20, 3) := by decide +kernel
theorem de_K_run_10 : decode bc_K_run 10 = .ok (.lload_n 2, 1) := by decide +kernel
theorem de_K_run_11 : decode bc_K_run 11 = .ok (.aload_n 0, 1) := by decide +kernel
theorem de_K_run_12 : decode bc_K_run 12 = .ok (.getfield 49, 3) := by decide +kernel
theorem de_K_run_15 : decode bc_K_run 15 = .ok (.lcmp, 1) := by decide +kernel
theorem de_K_run_16 : decode bc_K_run 16 = .ok (.ifCond .lt 11, 3) := by decide +kernel
theorem de_K_run_19 : decode bc_K_run 19 = .ok (.lload_n 2, 1) := by decide +kernel
theorem de_K_run_20 : decode bc_K_run 20 = .ok (.ldc2_w 152, 3) := by decide +kernel
theorem de_K_run_23 : decode bc_K_run 23 = .ok (.lcmp, 1) := by decide +kernel
theorem de_K_run_24 : decode bc_K_run 24 = .ok (.ifCond .le 5, 3) := by decide +kernel
theorem de_K_run_27 : decode bc_K_run 27 = .ok (.iconst (-1), 1) := by decide +kernel
theorem de_K_run_28 : decode bc_K_run 28 = .ok (.ireturn, 1) := by decide +kernel
theorem de_K_run_29 : decode bc_K_run 29 = .ok (.iconst 0, 1) := by decide +kernel
theorem de_K_run_30 : decode bc_K_run 30 = .ok (.istore 4, 2) := by decide +kernel
theorem de_K_run_32 : decode bc_K_run 32 = .ok (.aload_n 0, 1) := by decide +kernel
theorem de_K_run_33 : decode bc_K_run 33 = .ok (.invokevirtual 154, 3) := by decide +kernel
theorem de_K_run_36 : decode bc_K_run 36 = .ok (.istore 5, 2) := by decide +kernel
theorem de_K_run_38 : decode bc_K_run 38 = .ok (.iload 4, 2) := by decide +kernel
theorem de_K_run_40 : decode bc_K_run 40 = .ok (.iload_n 1, 1) := by decide +kernel
theorem de_K_run_41 : decode bc_K_run 41 = .ok (.if_icmp .ge 62, 3) := by decide +kernel
theorem de_K_run_44 : decode bc_K_run 44 = .ok (.iload 5, 2) := by decide +kernel
theorem de_K_run_46 : decode bc_K_run 46 = .ok (.iconst (-1), 1) := by decide +kernel
theorem de_K_run_47 : decode bc_K_run 47 = .ok (.if_icmp .eq 56, 3) := by decide +kernel
theorem de_K_run_50 : decode bc_K_run 50 = .ok (.aload_n 0, 1) := by decide +kernel
theorem de_K_run_51 : decode bc_K_run 51 = .ok (.getfield 11, 3) := by decide +kernel
theorem de_K_run_54 : decode bc_K_run 54 = .ok (.iload 5, 2) := by decide +kernel
theorem de_K_run_56 : decode bc_K_run 56 = .ok (.aaload, 1) := by decide +kernel
theorem de_K_run_57 : decode bc_K_run 57 = .ok (.getfield 158, 3) := by decide +kernel
theorem de_K_run_60 : decode bc_K_run 60 = .ok (.lload_n 2, 1) := by decide +kernel
theorem de_K_run_61 : decode bc_K_run 61 = .ok (.lcmp, 1) := by decide +kernel
theorem de_K_run_62 : decode bc_K_run 62 = .ok (.ifCond .gt 41, 3) := by decide +kernel
theorem de_K_run_65 : decode bc_K_run 65 = .ok (.aload_n 0, 1) := by decide +kernel
theorem de_K_run_66 : decode bc_K_run 66 = .ok (.aload_n 0, 1) := by decide +kernel
theorem de_K_run_67 : decode bc_K_run 67 = .ok (.getfield 11, 3) := by decide +kernel
theorem de_K_run_70 : decode bc_K_run 70 = .ok (.iload 5, 2) := by decide +kernel
theorem de_K_run_72 : decode bc_K_run 72 = .ok (.aaload, 1) := by decide +kernel
theorem de_K_run_73 : decode bc_K_run 73 = .ok (.invokevirtual 161, 3) := by decide +kernel
theorem de_K_run_76 : decode bc_K_run 76 = .ok (.aload_n 0, 1) := by decide +kernel
theorem de_K_run_77 : decode bc_K_run 77 = .ok (.aload_n 0, 1) := by decide +kernel
theorem de_K_run_78 : decode bc_K_run 78 = .ok (.getfield 11, 3) := by decide +kernel
theorem de_K_run_81 : decode bc_K_run 81 = .ok (.iload 5, 2) := by decide +kernel
theorem de_K_run_83 : decode bc_K_run 83 = .ok (.aaload, 1) := by decide +kernel
theorem de_K_run_84 : decode bc_K_run 84 = .ok (.invokevirtual 164, 3) := by decide +kernel
theorem de_K_run_87 : decode bc_K_run 87 = .ok (.aload_n 0, 1) := by decide +kernel
theorem de_K_run_88 : decode bc_K_run 88 = .ok (.invokevirtual 167, 3) := by decide +kernel
theorem de_K_run_91 : decode bc_K_run 91 = .ok (.iinc 4 1, 3) := by decide +kernel
theorem de_K_run_94 : decode bc_K_run 94 = .ok (.aload_n 0, 1) := by decide +kernel
theorem de_K_run_95 : decode bc_K_run 95 = .ok (.invokevirtual 154, 3) := by decide +kernel
theorem de_K_run_98 : decode bc_K_run 98 = .ok (.istore 5, 2) := by decide +kernel
theorem de_K_run_100 : decode bc_K_run 100 = .ok (.goto (-62), 3) := by decide +kernel
theorem de_K_run_103 : decode bc_K_run 103 = .ok (.iload 4, 2) := by decide +kernel
theorem de_K_run_105 : decode bc_K_run 105 = .ok (.iload_n 1, 1) := by decide +kernel
theorem de_K_run_106 : decode bc_K_run 106 = .ok (.if_icmp .ge 8, 3) := by decide +kernel
theorem de_K_run_109 : decode bc_K_run 109 = .ok (.aload_n 0, 1) := by decide +kernel
theorem de_K_run_110 : decode bc_K_run 110 = .ok (.lload_n 2, 1) := by decide +kernel
theorem de_K_run_111 : decode bc_K_run 111 = .ok (.invokevirtual 170, 3) := by decide +kernel
theorem de_K_run_114 : decode bc_K_run 114 = .ok (.iload 4, 2) := by decide +kernel
theorem de_K_run_116 : decode bc_K_run 116 = .ok (.ireturn, 1) := by decide +kernel
theorem de_K_now_0 : decode bc_K_now 0 = .ok (.aload_n 0, 1) := by decide +kernel
theorem de_K_now_1 : decode bc_K_now 1 = .ok (.getfield 49, 3) := by decide +kernel
theorem de_K_now_4 : decode bc_K_now 4 = .ok (.lreturn, 1) := by decide +kernel
theorem de_K_next_0 : decode bc_K_next 0 = .ok (.aload_n 0, 1) := by decide +kernel
theorem de_K_next_1 : decode bc_K_next 1 = .ok (.invokevirtual 154, 3) := by decide +kernel
theorem de_K_next_4 : decode bc_K_next 4 = .ok (.istore_n 1, 1) := by decide +kernel
theorem de_K_next_5 : decode bc_K_next 5 = .ok (.iload_n 1, 1) := by decide +kernel
theorem de_K_next_6 : decode bc_K_next 6 = .ok (.iconst (-1), 1) := by decide +kernel
theorem de_K_next_7 : decode bc_K_next 7 = .ok (.if_icmp .ne 9, 3) := by decide +kernel
theorem de_K_next_10 : decode bc_K_next 10 = .ok (.ldc2_w 174, 3) := by decide +kernel
theorem de_K_next_13 : decode bc_K_next 13 = .ok (.goto 12, 3) := by decide +kernel
theorem de_K_next_16 : decode bc_K_next 16 = .ok (.aload_n 0, 1) := by decide +kernel
theorem de_K_next_17 : decode bc_K_next 17 = .ok (.getfield 11, 3) := by decide +kernel
theorem de_K_next_20 : decode bc_K_next 20 = .ok (.iload_n 1, 1) := by decide +kernel
theorem de_K_next_21 : decode bc_K_next 21 = .ok (.aaload, 1) := by decide +kernel
theorem de_K_next_22 : decode bc_K_next 22 = .ok (.getfield 158, 3) := by decide +kernel
theorem de_K_next_25 : decode bc_K_next 25 = .ok (.lreturn, 1) := by decide +kernel
theorem de_K_state_0 : decode bc_K_state 0 = .ok (.aload_n 0, 1) := by decide +kernel
theorem de_K_state_1 : decode bc_K_state 1 = .ok (.iload_n 1, 1) := by decide +kernel
theorem de_K_state_2 : decode bc_K_state 2 = .ok (.invokevirtual 77, 3) := by decide +kernel
theorem de_K_state_5 : decode bc_K_state 5 = .ok (.ifCond .eq 15, 3) := by decide +kernel
theorem de_K_state_8 : decode bc_K_state 8 = .ok (.aload_n 0, 1) := by decide +kernel
theorem de_K_state_9 : decode bc_K_state 9 = .ok (.getfield 11, 3) := by decide +kernel
theorem de_K_state_12 : decode bc_K_state 12 = .ok (.iload_n 1, 1) := by decide +kernel
theorem de_K_state_13 : decode bc_K_state 13 = .ok (.aaload, 1) := by decide +kernel
theorem de_K_state_14 : decode bc_K_state 14 = .ok (.getfield 84, 3) := by decide +kernel
theorem de_K_state_17 : decode bc_K_state 17 = .ok (.goto 4, 3) := by decide +kernel
theorem de_K_state_20 : decode bc_K_state 20 = .ok (.iconst (-1), 1) := by decide +kernel
theorem de_K_state_21 : decode bc_K_state 21 = .ok (.ireturn, 1) := by decide +kernel
theorem de_K_place_0 : decode bc_K_place 0 = .ok (.aload_n 0, 1) := by decide +kernel
theorem de_K_place_1 : decode bc_K_place 1 = .ok (.iload_n 1, 1) := by decide +kernel
theorem de_K_place_2 : decode bc_K_place 2 = .ok (.invokevirtual 77, 3) := by decide +kernel
theorem de_K_place_5 : decode bc_K_place 5 = .ok (.ifCond .eq 15, 3) := by decide +kernel
theorem de_K_place_8 : decode bc_K_place 8 = .ok (.aload_n 0, 1) := by decide +kernel
theorem de_K_place_9 : decode bc_K_place 9 = .ok (.getfield 11, 3) := by decide +kernel
theorem de_K_place_12 : decode bc_K_place 12 = .ok (.iload_n 1, 1) := by decide +kernel
theorem de_K_place_13 : decode bc_K_place 13 = .ok (.aaload, 1) := by decide +kernel
theorem de_K_place_14 : decode bc_K_place 14 = .ok (.getfield 134, 3) := by decide +kernel
theorem de_K_place_17 : decode bc_K_place 17 = .ok (.goto 4, 3) := by decide +kernel
theorem de_K_place_20 : decode bc_K_place 20 = .ok (.iconst (-1), 1) := by decide +kernel
theorem de_K_place_21 : decode bc_K_place 21 = .ok (.ireturn, 1) := by decide +kernel
theorem de_K_held_0 : decode bc_K_held 0 = .ok (.aload_n 0, 1) := by decide +kernel
theorem de_K_held_1 : decode bc_K_held 1 = .ok (.iload_n 1, 1) := by decide +kernel
theorem de_K_held_2 : decode bc_K_held 2 = .ok (.invokevirtual 77, 3) := by decide +kernel
theorem de_K_held_5 : decode bc_K_held 5 = .ok (.ifCond .eq 24, 3) := by decide +kernel
theorem de_K_held_8 : decode bc_K_held 8 = .ok (.iload_n 2, 1) := by decide +kernel
theorem de_K_held_9 : decode bc_K_held 9 = .ok (.invokestatic 94, 3) := by decide +kernel
theorem de_K_held_12 : decode bc_K_held 12 = .ok (.ifCond .eq 17, 3) := by decide +kernel
theorem de_K_held_15 : decode bc_K_held 15 = .ok (.aload_n 0, 1) := by decide +kernel
theorem de_K_held_16 : decode bc_K_held 16 = .ok (.getfield 11, 3) := by decide +kernel
theorem de_K_held_19 : decode bc_K_held 19 = .ok (.iload_n 1, 1) := by decide +kernel
theorem de_K_held_20 : decode bc_K_held 20 = .ok (.aaload, 1) := by decide +kernel
theorem de_K_held_21 : decode bc_K_held 21 = .ok (.getfield 176, 3) := by decide +kernel
theorem de_K_held_24 : decode bc_K_held 24 = .ok (.iload_n 2, 1) := by decide +kernel
theorem de_K_held_25 : decode bc_K_held 25 = .ok (.iaload, 1) := by decide +kernel
theorem de_K_held_26 : decode bc_K_held 26 = .ok (.goto 4, 3) := by decide +kernel
theorem de_K_held_29 : decode bc_K_held 29 = .ok (.iconst (-1), 1) := by decide +kernel
theorem de_K_held_30 : decode bc_K_held 30 = .ok (.ireturn, 1) := by decide +kernel
theorem de_K_free_0 : decode bc_K_free 0 = .ok (.iload_n 1, 1) := by decide +kernel
theorem de_K_free_1 : decode bc_K_free 1 = .ok (.invokestatic 94, 3) := by decide +kernel
theorem de_K_free_4 : decode bc_K_free 4 = .ok (.ifCond .eq 15, 3) := by decide +kernel
theorem de_K_free_7 : decode bc_K_free 7 = .ok (.aload_n 0, 1) := by decide +kernel
theorem de_K_free_8 : decode bc_K_free 8 = .ok (.getfield 17, 3) := by decide +kernel
theorem de_K_free_11 : decode bc_K_free 11 = .ok (.iload_n 1, 1) := by decide +kernel
theorem de_K_free_12 : decode bc_K_free 12 = .ok (.aaload, 1) := by decide +kernel
theorem de_K_free_13 : decode bc_K_free 13 = .ok (.invokevirtual 179, 3) := by decide +kernel
theorem de_K_free_16 : decode bc_K_free 16 = .ok (.goto 4, 3) := by decide +kernel
theorem de_K_free_19 : decode bc_K_free 19 = .ok (.iconst (-1), 1) := by decide +kernel
theorem de_K_free_20 : decode bc_K_free 20 = .ok (.ireturn, 1) := by decide +kernel
theorem de_K_waiting_0 : decode bc_K_waiting 0 = .ok (.iload_n 1, 1) := by decide +kernel
theorem de_K_waiting_1 : decode bc_K_waiting 1 = .ok (.iconst 4, 1) := by decide +kernel
theorem de_K_waiting_2 : decode bc_K_waiting 2 = .ok (.if_icmp .ne 11, 3) := by decide +kernel
theorem de_K_waiting_5 : decode bc_K_waiting 5 = .ok (.aload_n 0, 1) := by decide +kernel
theorem de_K_waiting_6 : decode bc_K_waiting 6 = .ok (.getfield 30, 3) := by decide +kernel
theorem de_K_waiting_9 : decode bc_K_waiting 9 = .ok (.getfield 182, 3) := by decide +kernel
theorem de_K_waiting_12 : decode bc_K_waiting 12 = .ok (.ireturn, 1) := by decide +kernel
theorem de_K_waiting_13 : decode bc_K_waiting 13 = .ok (.iload_n 1, 1) := by decide +kernel
theorem de_K_waiting_14 : decode bc_K_waiting 14 = .ok (.invokestatic 94, 3) := by decide +kernel
theorem de_K_waiting_17 : decode bc_K_waiting 17 = .ok (.ifCond .eq 18, 3) := by decide +kernel
theorem de_K_waiting_20 : decode bc_K_waiting 20 = .ok (.aload_n 0, 1) := by decide +kernel
theorem de_K_waiting_21 : decode bc_K_waiting 21 = .ok (.getfield 17, 3) := by decide +kernel
theorem de_K_waiting_24 : decode bc_K_waiting 24 = .ok (.iload_n 1, 1) := by decide +kernel
theorem de_K_waiting_25 : decode bc_K_waiting 25 = .ok (.aaload, 1) := by decide +kernel
theorem de_K_waiting_26 : decode bc_K_waiting 26 = .ok (.getfield 185, 3) := by decide +kernel
theorem de_K_waiting_29 : decode bc_K_waiting 29 = .ok (.getfield 182, 3) := by decide +kernel
theorem de_K_waiting_32 : decode bc_K_waiting 32 = .ok (.goto 4, 3) := by decide +kernel
theorem de_K_waiting_35 : decode bc_K_waiting 35 = .ok (.iconst (-1), 1) := by decide +kernel
theorem de_K_waiting_36 : decode bc_K_waiting 36 = .ok (.ireturn, 1) := by decide +kernel
theorem de_K_area_0 : decode bc_K_area 0 = .ok (.iload_n 1, 1) := by decide +kernel
theorem de_K_area_1 : decode bc_K_area 1 = .ok (.invokestatic 94, 3) := by decide +kernel
theorem de_K_area_4 : decode bc_K_area 4 = .ok (.ifCond .eq 15, 3) := by decide +kernel
theorem de_K_area_7 : decode bc_K_area 7 = .ok (.aload_n 0, 1) := by decide +kernel
theorem de_K_area_8 : decode bc_K_area 8 = .ok (.getfield 17, 3) := by decide +kernel
theorem de_K_area_11 : decode bc_K_area 11 = .ok (.iload_n 1, 1) := by decide +kernel
theorem de_K_area_12 : decode bc_K_area 12 = .ok (.aaload, 1) := by decide +kernel
theorem de_K_area_13 : decode bc_K_area 13 = .ok (.getfield 188, 3) := by decide +kernel
theorem de_K_area_16 : decode bc_K_area 16 = .ok (.goto 6, 3) := by decide +kernel
theorem de_K_area_19 : decode bc_K_area 19 = .ok (.ldc2_w 174, 3) := by decide +kernel
theorem de_K_area_22 : decode bc_K_area 22 = .ok (.lreturn, 1) := by decide +kernel
theorem de_K_waited_0 : decode bc_K_waited 0 = .ok (.iload_n 1, 1) := by decide +kernel
theorem de_K_waited_1 : decode bc_K_waited 1 = .ok (.invokestatic 94, 3) := by decide +kernel
theorem de_K_waited_4 : decode bc_K_waited 4 = .ok (.ifCond .eq 15, 3) := by decide +kernel
theorem de_K_waited_7 : decode bc_K_waited 7 = .ok (.aload_n 0, 1) := by decide +kernel
theorem de_K_waited_8 : decode bc_K_waited 8 = .ok (.getfield 17, 3) := by decide +kernel
theorem de_K_waited_11 : decode bc_K_waited 11 = .ok (.iload_n 1, 1) := by decide +kernel
theorem de_K_waited_12 : decode bc_K_waited 12 = .ok (.aaload, 1) := by decide +kernel
theorem de_K_waited_13 : decode bc_K_waited 13 = .ok (.getfield 191, 3) := by decide +kernel
theorem de_K_waited_16 : decode bc_K_waited 16 = .ok (.goto 6, 3) := by decide +kernel
theorem de_K_waited_19 : decode bc_K_waited 19 = .ok (.ldc2_w 174, 3) := by decide +kernel
theorem de_K_waited_22 : decode bc_K_waited 22 = .ok (.lreturn, 1) := by decide +kernel
theorem de_K_level_0 : decode bc_K_level 0 = .ok (.iload_n 1, 1) := by decide +kernel
theorem de_K_level_1 : decode bc_K_level 1 = .ok (.invokestatic 110, 3) := by decide +kernel
theorem de_K_level_4 : decode bc_K_level 4 = .ok (.ifCond .eq 15, 3) := by decide +kernel
theorem de_K_level_7 : decode bc_K_level 7 = .ok (.aload_n 0, 1) := by decide +kernel
theorem de_K_level_8 : decode bc_K_level 8 = .ok (.getfield 23, 3) := by decide +kernel
theorem de_K_level_11 : decode bc_K_level 11 = .ok (.iload_n 1, 1) := by decide +kernel
theorem de_K_level_12 : decode bc_K_level 12 = .ok (.aaload, 1) := by decide +kernel
theorem de_K_level_13 : decode bc_K_level 13 = .ok (.getfield 114, 3) := by decide +kernel
theorem de_K_level_16 : decode bc_K_level 16 = .ok (.goto 4, 3) := by decide +kernel
theorem de_K_level_19 : decode bc_K_level 19 = .ok (.iconst (-1), 1) := by decide +kernel
theorem de_K_level_20 : decode bc_K_level 20 = .ok (.ireturn, 1) := by decide +kernel
theorem de_K_stuck_0 : decode bc_K_stuck 0 = .ok (.aload_n 0, 1) := by decide +kernel
theorem de_K_stuck_1 : decode bc_K_stuck 1 = .ok (.getfield 30, 3) := by decide +kernel
theorem de_K_stuck_4 : decode bc_K_stuck 4 = .ok (.getfield 182, 3) := by decide +kernel
theorem de_K_stuck_7 : decode bc_K_stuck 7 = .ok (.ifCond .le 7, 3) := by decide +kernel
theorem de_K_stuck_10 : decode bc_K_stuck 10 = .ok (.iconst 1, 1) := by decide +kernel
theorem de_K_stuck_11 : decode bc_K_stuck 11 = .ok (.goto 4, 3) := by decide +kernel
theorem de_K_stuck_14 : decode bc_K_stuck 14 = .ok (.iconst 0, 1) := by decide +kernel
theorem de_K_stuck_15 : decode bc_K_stuck 15 = .ok (.istore_n 1, 1) := by decide +kernel
theorem de_K_stuck_16 : decode bc_K_stuck 16 = .ok (.iconst 0, 1) := by decide +kernel
theorem de_K_stuck_17 : decode bc_K_stuck 17 = .ok (.istore_n 2, 1) := by decide +kernel
theorem de_K_stuck_18 : decode bc_K_stuck 18 = .ok (.iload_n 2, 1) := by decide +kernel
theorem de_K_stuck_19 : decode bc_K_stuck 19 = .ok (.iconst 4, 1) := by decide +kernel
theorem de_K_stuck_20 : decode bc_K_stuck 20 = .ok (.if_icmp .ge 34, 3) := by decide +kernel
theorem de_K_stuck_23 : decode bc_K_stuck 23 = .ok (.iload_n 1, 1) := by decide +kernel
theorem de_K_stuck_24 : decode bc_K_stuck 24 = .ok (.ifCond .ne 18, 3) := by decide +kernel
theorem de_K_stuck_27 : decode bc_K_stuck 27 = .ok (.aload_n 0, 1) := by decide +kernel
theorem de_K_stuck_28 : decode bc_K_stuck 28 = .ok (.getfield 17, 3) := by decide +kernel
theorem de_K_stuck_31 : decode bc_K_stuck 31 = .ok (.iload_n 2, 1) := by decide +kernel
theorem de_K_stuck_32 : decode bc_K_stuck 32 = .ok (.aaload, 1) := by decide +kernel
theorem de_K_stuck_33 : decode bc_K_stuck 33 = .ok (.getfield 185, 3) := by decide +kernel
theorem de_K_stuck_36 : decode bc_K_stuck 36 = .ok (.getfield 182, 3) := by decide +kernel
theorem de_K_stuck_39 : decode bc_K_stuck 39 = .ok (.ifCond .le 7, 3) := by decide +kernel
theorem de_K_stuck_42 : decode bc_K_stuck 42 = .ok (.iconst 1, 1) := by decide +kernel
theorem de_K_stuck_43 : decode bc_K_stuck 43 = .ok (.goto 4, 3) := by decide +kernel
theorem de_K_stuck_46 : decode bc_K_stuck 46 = .ok (.iconst 0, 1) := by decide +kernel
theorem de_K_stuck_47 : decode bc_K_stuck 47 = .ok (.istore_n 1, 1) := by decide +kernel
theorem de_K_stuck_48 : decode bc_K_stuck 48 = .ok (.iinc 2 1, 3) := by decide +kernel
theorem de_K_stuck_51 : decode bc_K_stuck 51 = .ok (.goto (-33), 3) := by decide +kernel
theorem de_K_stuck_54 : decode bc_K_stuck 54 = .ok (.iload_n 1, 1) := by decide +kernel
theorem de_K_stuck_55 : decode bc_K_stuck 55 = .ok (.ifCond .eq 15, 3) := by decide +kernel
theorem de_K_stuck_58 : decode bc_K_stuck 58 = .ok (.aload_n 0, 1) := by decide +kernel
theorem de_K_stuck_59 : decode bc_K_stuck 59 = .ok (.invokevirtual 154, 3) := by decide +kernel
theorem de_K_stuck_62 : decode bc_K_stuck 62 = .ok (.iconst (-1), 1) := by decide +kernel
theorem de_K_stuck_63 : decode bc_K_stuck 63 = .ok (.if_icmp .ne 7, 3) := by decide +kernel
theorem de_K_stuck_66 : decode bc_K_stuck 66 = .ok (.iconst 1, 1) := by decide +kernel
theorem de_K_stuck_67 : decode bc_K_stuck 67 = .ok (.goto 4, 3) := by decide +kernel
theorem de_K_stuck_70 : decode bc_K_stuck 70 = .ok (.iconst 0, 1) := by decide +kernel
theorem de_K_stuck_71 : decode bc_K_stuck 71 = .ok (.ireturn, 1) := by decide +kernel
theorem de_C_before_0 : decode bc_C_before 0 = .ok (.iload_n 1, 1) := by decide +kernel
theorem de_C_before_1 : decode bc_C_before 1 = .ok (.ifCond .lt 11, 3) := by decide +kernel
theorem de_C_before_4 : decode bc_C_before 4 = .ok (.iload_n 1, 1) := by decide +kernel
theorem de_C_before_5 : decode bc_C_before 5 = .ok (.aload_n 0, 1) := by decide +kernel
theorem de_C_before_6 : decode bc_C_before 6 = .ok (.getfield 19, 3) := by decide +kernel
theorem de_C_before_9 : decode bc_C_before 9 = .ok (.if_icmp .lt 5, 3) := by decide +kernel
theorem de_C_before_12 : decode bc_C_before 12 = .ok (.iconst (-1), 1) := by decide +kernel
theorem de_C_before_13 : decode bc_C_before 13 = .ok (.ireturn, 1) := by decide +kernel
theorem de_C_before_14 : decode bc_C_before 14 = .ok (.aload_n 0, 1) := by decide +kernel
theorem de_C_before_15 : decode bc_C_before 15 = .ok (.getfield 9, 3) := by decide +kernel
theorem de_C_before_18 : decode bc_C_before 18 = .ok (.aload_n 0, 1) := by decide +kernel
theorem de_C_before_19 : decode bc_C_before 19 = .ok (.getfield 15, 3) := by decide +kernel
theorem de_C_before_22 : decode bc_C_before 22 = .ok (.iload_n 1, 1) := by decide +kernel
theorem de_C_before_23 : decode bc_C_before 23 = .ok (.isub, 1) := by decide +kernel
theorem de_C_before_24 : decode bc_C_before 24 = .ok (.bipush 64, 2) := by decide +kernel
theorem de_C_before_26 : decode bc_C_before 26 = .ok (.iadd, 1) := by decide +kernel
theorem de_C_before_27 : decode bc_C_before 27 = .ok (.bipush 64, 2) := by decide +kernel
theorem de_C_before_29 : decode bc_C_before 29 = .ok (.irem, 1) := by decide +kernel
theorem de_C_before_30 : decode bc_C_before 30 = .ok (.iaload, 1) := by decide +kernel
theorem de_C_before_31 : decode bc_C_before 31 = .ok (.ireturn, 1) := by decide +kernel
theorem de_K_traced_0 : decode bc_K_traced 0 = .ok (.aload_n 0, 1) := by decide +kernel
theorem de_K_traced_1 : decode bc_K_traced 1 = .ok (.getfield 37, 3) := by decide +kernel
theorem de_K_traced_4 : decode bc_K_traced 4 = .ok (.iload_n 1, 1) := by decide +kernel
theorem de_K_traced_5 : decode bc_K_traced 5 = .ok (.invokevirtual 194, 3) := by decide +kernel
theorem de_K_traced_8 : decode bc_K_traced 8 = .ok (.ireturn, 1) := by decide +kernel
theorem de_M_process_0 : decode bc_M_process 0 = .ok (.aload_n 0, 1) := by decide +kernel
theorem de_M_process_1 : decode bc_M_process 1 = .ok (.getfield 78, 3) := by decide +kernel
theorem de_M_process_4 : decode bc_M_process 4 = .ok (.bipush 12, 2) := by decide +kernel
theorem de_M_process_6 : decode bc_M_process 6 = .ok (.if_icmp .eq 35, 3) := by decide +kernel
theorem de_M_process_9 : decode bc_M_process 9 = .ok (.iload_n 1, 1) := by decide +kernel
theorem de_M_process_10 : decode bc_M_process 10 = .ok (.bipush (-4), 2) := by decide +kernel
theorem de_M_process_12 : decode bc_M_process 12 = .ok (.if_icmp .lt 29, 3) := by decide +kernel
theorem de_M_process_15 : decode bc_M_process 15 = .ok (.iload_n 1, 1) := by decide +kernel
theorem de_M_process_16 : decode bc_M_process 16 = .ok (.iconst 4, 1) := by decide +kernel
theorem de_M_process_17 : decode bc_M_process 17 = .ok (.if_icmp .gt 24, 3) := by decide +kernel
theorem de_M_process_20 : decode bc_M_process 20 = .ok (.iload_n 2, 1) := by decide +kernel
theorem de_M_process_21 : decode bc_M_process 21 = .ok (.iconst 1, 1) := by decide +kernel
theorem de_M_process_22 : decode bc_M_process 22 = .ok (.if_icmp .lt 19, 3) := by decide +kernel
theorem de_M_process_25 : decode bc_M_process 25 = .ok (.iload_n 2, 1) := by decide +kernel
theorem de_M_process_26 : decode bc_M_process 26 = .ok (.bipush 9, 2) := by decide +kernel
theorem de_M_process_28 : decode bc_M_process 28 = .ok (.if_icmp .gt 13, 3) := by decide +kernel
theorem de_M_process_31 : decode bc_M_process 31 = .ok (.iload_n 3, 1) := by decide +kernel
theorem de_M_process_32 : decode bc_M_process 32 = .ok (.ifCond .lt 9, 3) := by decide +kernel
theorem de_M_process_35 : decode bc_M_process 35 = .ok (.iload_n 3, 1) := by decide +kernel
theorem de_M_process_36 : decode bc_M_process 36 = .ok (.bipush 10, 2) := by decide +kernel
theorem de_M_process_38 : decode bc_M_process 38 = .ok (.if_icmp .le 5, 3) := by decide +kernel
theorem de_M_process_41 : decode bc_M_process 41 = .ok (.iconst (-1), 1) := by decide +kernel
theorem de_M_process_42 : decode bc_M_process 42 = .ok (.ireturn, 1) := by decide +kernel
theorem de_M_process_43 : decode bc_M_process 43 = .ok (.aload_n 0, 1) := by decide +kernel
theorem de_M_process_44 : decode bc_M_process 44 = .ok (.getfield 7, 3) := by decide +kernel
theorem de_M_process_47 : decode bc_M_process 47 = .ok (.aload_n 0, 1) := by decide +kernel
theorem de_M_process_48 : decode bc_M_process 48 = .ok (.getfield 78, 3) := by decide +kernel
theorem de_M_process_51 : decode bc_M_process 51 = .ok (.iload_n 1, 1) := by decide +kernel
theorem de_M_process_52 : decode bc_M_process 52 = .ok (.iastore, 1) := by decide +kernel
theorem de_M_process_53 : decode bc_M_process 53 = .ok (.aload_n 0, 1) := by decide +kernel
theorem de_M_process_54 : decode bc_M_process 54 = .ok (.getfield 13, 3) := by decide +kernel
theorem de_M_process_57 : decode bc_M_process 57 = .ok (.aload_n 0, 1) := by decide +kernel
theorem de_M_process_58 : decode bc_M_process 58 = .ok (.getfield 78, 3) := by decide +kernel
theorem de_M_process_61 : decode bc_M_process 61 = .ok (.iload_n 2, 1) := by decide +kernel
theorem de_M_process_62 : decode bc_M_process 62 = .ok (.iastore, 1) := by decide +kernel
theorem de_M_process_63 : decode bc_M_process 63 = .ok (.aload_n 0, 1) := by decide +kernel
theorem de_M_process_64 : decode bc_M_process 64 = .ok (.getfield 16, 3) := by decide +kernel
theorem de_M_process_67 : decode bc_M_process 67 = .ok (.aload_n 0, 1) := by decide +kernel
theorem de_M_process_68 : decode bc_M_process 68 = .ok (.getfield 78, 3) := by decide +kernel
theorem de_M_process_71 : decode bc_M_process 71 = .ok (.iload_n 3, 1) := by decide +kernel
theorem de_M_process_72 : decode bc_M_process 72 = .ok (.iastore, 1) := by decide +kernel
theorem de_M_process_73 : decode bc_M_process 73 = .ok (.aload_n 0, 1) := by decide +kernel
theorem de_M_process_74 : decode bc_M_process 74 = .ok (.getfield 32, 3) := by decide +kernel
theorem de_M_process_77 : decode bc_M_process 77 = .ok (.aload_n 0, 1) := by decide +kernel
theorem de_M_process_78 : decode bc_M_process 78 = .ok (.getfield 78, 3) := by decide +kernel
theorem de_M_process_81 : decode bc_M_process 81 = .ok (.iconst (-1), 1) := by decide +kernel
theorem de_M_process_82 : decode bc_M_process 82 = .ok (.iastore, 1) := by decide +kernel
theorem de_M_process_83 : decode bc_M_process 83 = .ok (.aload_n 0, 1) := by decide +kernel
theorem de_M_process_84 : decode bc_M_process 84 = .ok (.dup, 1) := by decide +kernel
theorem de_M_process_85 : decode bc_M_process 85 = .ok (.getfield 78, 3) := by decide +kernel
theorem de_M_process_88 : decode bc_M_process 88 = .ok (.iconst 1, 1) := by decide +kernel
theorem de_M_process_89 : decode bc_M_process 89 = .ok (.iadd, 1) := by decide +kernel
theorem de_M_process_90 : decode bc_M_process 90 = .ok (.putfield 78, 3) := by decide +kernel
theorem de_M_process_93 : decode bc_M_process 93 = .ok (.aload_n 0, 1) := by decide +kernel
theorem de_M_process_94 : decode bc_M_process 94 = .ok (.getfield 78, 3) := by decide +kernel
theorem de_M_process_97 : decode bc_M_process 97 = .ok (.iconst 1, 1) := by decide +kernel
theorem de_M_process_98 : decode bc_M_process 98 = .ok (.isub, 1) := by decide +kernel
theorem de_M_process_99 : decode bc_M_process 99 = .ok (.ireturn, 1) := by decide +kernel
theorem de_M_within_0 : decode bc_M_within 0 = .ok (.iload_n 1, 1) := by decide +kernel
theorem de_M_within_1 : decode bc_M_within 1 = .ok (.iload_n 2, 1) := by decide +kernel
theorem de_M_within_2 : decode bc_M_within 2 = .ok (.if_icmp .lt 12, 3) := by decide +kernel
theorem de_M_within_5 : decode bc_M_within 5 = .ok (.iload_n 1, 1) := by decide +kernel
theorem de_M_within_6 : decode bc_M_within 6 = .ok (.iload_n 3, 1) := by decide +kernel
theorem de_M_within_7 : decode bc_M_within 7 = .ok (.if_icmp .gt 7, 3) := by decide +kernel
theorem de_M_within_10 : decode bc_M_within 10 = .ok (.iconst 1, 1) := by decide +kernel
theorem de_M_within_11 : decode bc_M_within 11 = .ok (.goto 4, 3) := by decide +kernel
theorem de_M_within_14 : decode bc_M_within 14 = .ok (.iconst 0, 1) := by decide +kernel
theorem de_M_within_15 : decode bc_M_within 15 = .ok (.ireturn, 1) := by decide +kernel
theorem de_M_fits_0 : decode bc_M_fits 0 = .ok (.iload_n 1, 1) := by decide +kernel
theorem de_M_fits_1 : decode bc_M_fits 1 = .ok (.ifCond .ne 12, 3) := by decide +kernel
theorem de_M_fits_4 : decode bc_M_fits 4 = .ok (.aload_n 0, 1) := by decide +kernel
theorem de_M_fits_5 : decode bc_M_fits 5 = .ok (.iload_n 2, 1) := by decide +kernel
theorem de_M_fits_6 : decode bc_M_fits 6 = .ok (.iconst 0, 1) := by decide +kernel
theorem de_M_fits_7 : decode bc_M_fits 7 = .ok (.ldc 82, 2) := by decide +kernel
theorem de_M_fits_9 : decode bc_M_fits 9 = .ok (.invokevirtual 83, 3) := by decide +kernel
theorem de_M_fits_12 : decode bc_M_fits 12 = .ok (.ireturn, 1) := by decide +kernel
theorem de_M_fits_13 : decode bc_M_fits 13 = .ok (.iload_n 1, 1) := by decide +kernel
theorem de_M_fits_14 : decode bc_M_fits 14 = .ok (.iconst 1, 1) := by decide +kernel
theorem de_M_fits_15 : decode bc_M_fits 15 = .ok (.if_icmp .ne 5, 3) := by decide +kernel
theorem de_M_fits_18 : decode bc_M_fits 18 = .ok (.iconst 1, 1) := by decide +kernel
theorem de_M_fits_19 : decode bc_M_fits 19 = .ok (.ireturn, 1) := by decide +kernel
theorem de_M_fits_20 : decode bc_M_fits 20 = .ok (.iload_n 1, 1) := by decide +kernel
theorem de_M_fits_21 : decode bc_M_fits 21 = .ok (.iconst 3, 1) := by decide +kernel
theorem de_M_fits_22 : decode bc_M_fits 22 = .ok (.if_icmp .gt 30, 3) := by decide +kernel
theorem de_M_fits_25 : decode bc_M_fits 25 = .ok (.aload_n 0, 1) := by decide +kernel
theorem de_M_fits_26 : decode bc_M_fits 26 = .ok (.iload_n 2, 1) := by decide +kernel
theorem de_M_fits_27 : decode bc_M_fits 27 = .ok (.iconst 0, 1) := by decide +kernel
theorem de_M_fits_28 : decode bc_M_fits 28 = .ok (.iconst 3, 1) := by decide +kernel
theorem de_M_fits_29 : decode bc_M_fits 29 = .ok (.invokevirtual 83, 3) := by decide +kernel
theorem de_M_fits_32 : decode bc_M_fits 32 = .ok (.ifCond .eq 18, 3) := by decide +kernel
theorem de_M_fits_35 : decode bc_M_fits 35 = .ok (.aload_n 0, 1) := by decide +kernel
theorem de_M_fits_36 : decode bc_M_fits 36 = .ok (.iload_n 3, 1) := by decide +kernel
theorem de_M_fits_37 : decode bc_M_fits 37 = .ok (.iconst 1, 1) := by decide +kernel
theorem de_M_fits_38 : decode bc_M_fits 38 = .ok (.bipush 9, 2) := by decide +kernel
theorem de_M_fits_40 : decode bc_M_fits 40 = .ok (.invokevirtual 83, 3) := by decide +kernel
theorem de_M_fits_43 : decode bc_M_fits 43 = .ok (.ifCond .eq 7, 3) := by decide +kernel
theorem de_M_fits_46 : decode bc_M_fits 46 = .ok (.iconst 1, 1) := by decide +kernel
theorem de_M_fits_47 : decode bc_M_fits 47 = .ok (.goto 4, 3) := by decide +kernel
theorem de_M_fits_50 : decode bc_M_fits 50 = .ok (.iconst 0, 1) := by decide +kernel
theorem de_M_fits_51 : decode bc_M_fits 51 = .ok (.ireturn, 1) := by decide +kernel
theorem de_M_fits_52 : decode bc_M_fits 52 = .ok (.iload_n 1, 1) := by decide +kernel
theorem de_M_fits_53 : decode bc_M_fits 53 = .ok (.iconst 5, 1) := by decide +kernel
theorem de_M_fits_54 : decode bc_M_fits 54 = .ok (.if_icmp .gt 31, 3) := by decide +kernel
theorem de_M_fits_57 : decode bc_M_fits 57 = .ok (.aload_n 0, 1) := by decide +kernel
theorem de_M_fits_58 : decode bc_M_fits 58 = .ok (.iload_n 2, 1) := by decide +kernel
theorem de_M_fits_59 : decode bc_M_fits 59 = .ok (.iconst 0, 1) := by decide +kernel
theorem de_M_fits_60 : decode bc_M_fits 60 = .ok (.iconst 3, 1) := by decide +kernel
theorem de_M_fits_61 : decode bc_M_fits 61 = .ok (.invokevirtual 83, 3) := by decide +kernel
theorem de_M_fits_64 : decode bc_M_fits 64 = .ok (.ifCond .eq 19, 3) := by decide +kernel
theorem de_M_fits_67 : decode bc_M_fits 67 = .ok (.aload_n 0, 1) := by decide +kernel
theorem de_M_fits_68 : decode bc_M_fits 68 = .ok (.iload_n 3, 1) := by decide +kernel
theorem de_M_fits_69 : decode bc_M_fits 69 = .ok (.iconst 1, 1) := by decide +kernel
theorem de_M_fits_70 : decode bc_M_fits 70 = .ok (.sipush 1000, 3) := by decide +kernel
theorem de_M_fits_73 : decode bc_M_fits 73 = .ok (.invokevirtual 83, 3) := by decide +kernel
theorem de_M_fits_76 : decode bc_M_fits 76 = .ok (.ifCond .eq 7, 3) := by decide +kernel
theorem de_M_fits_79 : decode bc_M_fits 79 = .ok (.iconst 1, 1) := by decide +kernel
theorem de_M_fits_80 : decode bc_M_fits 80 = .ok (.goto 4, 3) := by decide +kernel
theorem de_M_fits_83 : decode bc_M_fits 83 = .ok (.iconst 0, 1) := by decide +kernel
theorem de_M_fits_84 : decode bc_M_fits 84 = .ok (.ireturn, 1) := by decide +kernel
theorem de_M_fits_85 : decode bc_M_fits 85 = .ok (.aload_n 0, 1) := by decide +kernel
theorem de_M_fits_86 : decode bc_M_fits 86 = .ok (.iload_n 2, 1) := by decide +kernel
theorem de_M_fits_87 : decode bc_M_fits 87 = .ok (.iconst 0, 1) := by decide +kernel
theorem de_M_fits_88 : decode bc_M_fits 88 = .ok (.bipush 11, 2) := by decide +kernel
theorem de_M_fits_90 : decode bc_M_fits 90 = .ok (.invokevirtual 83, 3) := by decide +kernel
theorem de_M_fits_93 : decode bc_M_fits 93 = .ok (.ireturn, 1) := by decide +kernel
theorem de_M_none_0 : decode bc_M_none 0 = .ok (.iload_n 1, 1) := by decide +kernel
theorem de_M_none_1 : decode bc_M_none 1 = .ok (.ifCond .lt 11, 3) := by decide +kernel
theorem de_M_none_4 : decode bc_M_none 4 = .ok (.iload_n 1, 1) := by decide +kernel
theorem de_M_none_5 : decode bc_M_none 5 = .ok (.aload_n 0, 1) := by decide +kernel
theorem de_M_none_6 : decode bc_M_none 6 = .ok (.getfield 78, 3) := by decide +kernel
theorem de_M_none_9 : decode bc_M_none 9 = .ok (.if_icmp .lt 7, 3) := by decide +kernel
theorem de_M_none_12 : decode bc_M_none 12 = .ok (.iconst 1, 1) := by decide +kernel
theorem de_M_none_13 : decode bc_M_none 13 = .ok (.goto 4, 3) := by decide +kernel
theorem de_M_none_16 : decode bc_M_none 16 = .ok (.iconst 0, 1) := by decide +kernel
theorem de_M_none_17 : decode bc_M_none 17 = .ok (.ireturn, 1) := by decide +kernel
theorem de_M_instruct_0 : decode bc_M_instruct 0 = .ok (.aload_n 0, 1) := by decide +kernel
theorem de_M_instruct_1 : decode bc_M_instruct 1 = .ok (.iload_n 1, 1) := by decide +kernel
theorem de_M_instruct_2 : decode bc_M_instruct 2 = .ok (.invokevirtual 87, 3) := by decide +kernel
theorem de_M_instruct_5 : decode bc_M_instruct 5 = .ok (.ifCond .ne 45, 3) := by decide +kernel
theorem de_M_instruct_8 : decode bc_M_instruct 8 = .ok (.aload_n 0, 1) := by decide +kernel
theorem de_M_instruct_9 : decode bc_M_instruct 9 = .ok (.getfield 25, 3) := by decide +kernel
theorem de_M_instruct_12 : decode bc_M_instruct 12 = .ok (.iload_n 1, 1) := by decide +kernel
theorem de_M_instruct_13 : decode bc_M_instruct 13 = .ok (.iaload, 1) := by decide +kernel
theorem de_M_instruct_14 : decode bc_M_instruct 14 = .ok (.ifCond .ne 36, 3) := by decide +kernel
theorem de_M_instruct_17 : decode bc_M_instruct 17 = .ok (.aload_n 0, 1) := by decide +kernel
theorem de_M_instruct_18 : decode bc_M_instruct 18 = .ok (.getfield 19, 3) := by decide +kernel
theorem de_M_instruct_21 : decode bc_M_instruct 21 = .ok (.iload_n 1, 1) := by decide +kernel
theorem de_M_instruct_22 : decode bc_M_instruct 22 = .ok (.iaload, 1) := by decide +kernel
theorem de_M_instruct_23 : decode bc_M_instruct 23 = .ok (.bipush 10, 2) := by decide +kernel
theorem de_M_instruct_25 : decode bc_M_instruct 25 = .ok (.if_icmp .eq 25, 3) := by decide +kernel
theorem de_M_instruct_28 : decode bc_M_instruct 28 = .ok (.aload_n 0, 1) := by decide +kernel
theorem de_M_instruct_29 : decode bc_M_instruct 29 = .ok (.iload_n 2, 1) := by decide +kernel
theorem de_M_instruct_30 : decode bc_M_instruct 30 = .ok (.iconst 0, 1) := by decide +kernel
theorem de_M_instruct_31 : decode bc_M_instruct 31 = .ok (.bipush 9, 2) := by decide +kernel
theorem de_M_instruct_33 : decode bc_M_instruct 33 = .ok (.invokevirtual 83, 3) := by decide +kernel
