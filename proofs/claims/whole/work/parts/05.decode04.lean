theorem de_M_instruct_36 : decode bc_M_instruct 36 = .ok (.ifCond .eq 14, 3) := by decide +kernel
theorem de_M_instruct_39 : decode bc_M_instruct 39 = .ok (.aload_n 0, 1) := by decide +kernel
theorem de_M_instruct_40 : decode bc_M_instruct 40 = .ok (.iload_n 2, 1) := by decide +kernel
theorem de_M_instruct_41 : decode bc_M_instruct 41 = .ok (.iload_n 3, 1) := by decide +kernel
theorem de_M_instruct_42 : decode bc_M_instruct 42 = .ok (.iload 4, 2) := by decide +kernel
theorem de_M_instruct_44 : decode bc_M_instruct 44 = .ok (.invokevirtual 91, 3) := by decide +kernel
theorem de_M_instruct_47 : decode bc_M_instruct 47 = .ok (.ifCond .ne 5, 3) := by decide +kernel
theorem de_M_instruct_50 : decode bc_M_instruct 50 = .ok (.iconst 0, 1) := by decide +kernel
theorem de_M_instruct_51 : decode bc_M_instruct 51 = .ok (.ireturn, 1) := by decide +kernel
theorem de_M_instruct_52 : decode bc_M_instruct 52 = .ok (.bipush 10, 2) := by decide +kernel
theorem de_M_instruct_54 : decode bc_M_instruct 54 = .ok (.iload_n 1, 1) := by decide +kernel
theorem de_M_instruct_55 : decode bc_M_instruct 55 = .ok (.imul, 1) := by decide +kernel
theorem de_M_instruct_56 : decode bc_M_instruct 56 = .ok (.aload_n 0, 1) := by decide +kernel
theorem de_M_instruct_57 : decode bc_M_instruct 57 = .ok (.getfield 19, 3) := by decide +kernel
theorem de_M_instruct_60 : decode bc_M_instruct 60 = .ok (.iload_n 1, 1) := by decide +kernel
theorem de_M_instruct_61 : decode bc_M_instruct 61 = .ok (.iaload, 1) := by decide +kernel
theorem de_M_instruct_62 : decode bc_M_instruct 62 = .ok (.iadd, 1) := by decide +kernel
theorem de_M_instruct_63 : decode bc_M_instruct 63 = .ok (.istore 5, 2) := by decide +kernel
theorem de_M_instruct_65 : decode bc_M_instruct 65 = .ok (.aload_n 0, 1) := by decide +kernel
theorem de_M_instruct_66 : decode bc_M_instruct 66 = .ok (.getfield 41, 3) := by decide +kernel
theorem de_M_instruct_69 : decode bc_M_instruct 69 = .ok (.iload 5, 2) := by decide +kernel
theorem de_M_instruct_71 : decode bc_M_instruct 71 = .ok (.iload_n 2, 1) := by decide +kernel
theorem de_M_instruct_72 : decode bc_M_instruct 72 = .ok (.iastore, 1) := by decide +kernel
theorem de_M_instruct_73 : decode bc_M_instruct 73 = .ok (.aload_n 0, 1) := by decide +kernel
theorem de_M_instruct_74 : decode bc_M_instruct 74 = .ok (.getfield 44, 3) := by decide +kernel
theorem de_M_instruct_77 : decode bc_M_instruct 77 = .ok (.iload 5, 2) := by decide +kernel
theorem de_M_instruct_79 : decode bc_M_instruct 79 = .ok (.iload_n 3, 1) := by decide +kernel
theorem de_M_instruct_80 : decode bc_M_instruct 80 = .ok (.iastore, 1) := by decide +kernel
theorem de_M_instruct_81 : decode bc_M_instruct 81 = .ok (.aload_n 0, 1) := by decide +kernel
theorem de_M_instruct_82 : decode bc_M_instruct 82 = .ok (.getfield 47, 3) := by decide +kernel
theorem de_M_instruct_85 : decode bc_M_instruct 85 = .ok (.iload 5, 2) := by decide +kernel
theorem de_M_instruct_87 : decode bc_M_instruct 87 = .ok (.iload 4, 2) := by decide +kernel
theorem de_M_instruct_89 : decode bc_M_instruct 89 = .ok (.iastore, 1) := by decide +kernel
theorem de_M_instruct_90 : decode bc_M_instruct 90 = .ok (.aload_n 0, 1) := by decide +kernel
theorem de_M_instruct_91 : decode bc_M_instruct 91 = .ok (.getfield 19, 3) := by decide +kernel
theorem de_M_instruct_94 : decode bc_M_instruct 94 = .ok (.iload_n 1, 1) := by decide +kernel
theorem de_M_instruct_95 : decode bc_M_instruct 95 = .ok (.dup2, 1) := by decide +kernel
theorem de_M_instruct_96 : decode bc_M_instruct 96 = .ok (.iaload, 1) := by decide +kernel
theorem de_M_instruct_97 : decode bc_M_instruct 97 = .ok (.iconst 1, 1) := by decide +kernel
theorem de_M_instruct_98 : decode bc_M_instruct 98 = .ok (.iadd, 1) := by decide +kernel
theorem de_M_instruct_99 : decode bc_M_instruct 99 = .ok (.iastore, 1) := by decide +kernel
theorem de_M_instruct_100 : decode bc_M_instruct 100 = .ok (.iconst 1, 1) := by decide +kernel
theorem de_M_instruct_101 : decode bc_M_instruct 101 = .ok (.ireturn, 1) := by decide +kernel
theorem de_M_seized_0 : decode bc_M_seized 0 = .ok (.iconst 0, 1) := by decide +kernel
theorem de_M_seized_1 : decode bc_M_seized 1 = .ok (.istore_n 2, 1) := by decide +kernel
theorem de_M_seized_2 : decode bc_M_seized 2 = .ok (.iconst 0, 1) := by decide +kernel
theorem de_M_seized_3 : decode bc_M_seized 3 = .ok (.istore_n 3, 1) := by decide +kernel
theorem de_M_seized_4 : decode bc_M_seized 4 = .ok (.iload_n 3, 1) := by decide +kernel
theorem de_M_seized_5 : decode bc_M_seized 5 = .ok (.aload_n 0, 1) := by decide +kernel
theorem de_M_seized_6 : decode bc_M_seized 6 = .ok (.getfield 78, 3) := by decide +kernel
theorem de_M_seized_9 : decode bc_M_seized 9 = .ok (.if_icmp .ge 22, 3) := by decide +kernel
theorem de_M_seized_12 : decode bc_M_seized 12 = .ok (.iload_n 2, 1) := by decide +kernel
theorem de_M_seized_13 : decode bc_M_seized 13 = .ok (.aload_n 0, 1) := by decide +kernel
theorem de_M_seized_14 : decode bc_M_seized 14 = .ok (.getfield 50, 3) := by decide +kernel
theorem de_M_seized_17 : decode bc_M_seized 17 = .ok (.iconst 4, 1) := by decide +kernel
theorem de_M_seized_18 : decode bc_M_seized 18 = .ok (.iload_n 3, 1) := by decide +kernel
theorem de_M_seized_19 : decode bc_M_seized 19 = .ok (.imul, 1) := by decide +kernel
theorem de_M_seized_20 : decode bc_M_seized 20 = .ok (.iload_n 1, 1) := by decide +kernel
theorem de_M_seized_21 : decode bc_M_seized 21 = .ok (.iadd, 1) := by decide +kernel
theorem de_M_seized_22 : decode bc_M_seized 22 = .ok (.iaload, 1) := by decide +kernel
theorem de_M_seized_23 : decode bc_M_seized 23 = .ok (.iadd, 1) := by decide +kernel
theorem de_M_seized_24 : decode bc_M_seized 24 = .ok (.istore_n 2, 1) := by decide +kernel
theorem de_M_seized_25 : decode bc_M_seized 25 = .ok (.iinc 3 1, 3) := by decide +kernel
theorem de_M_seized_28 : decode bc_M_seized 28 = .ok (.goto (-24), 3) := by decide +kernel
theorem de_M_seized_31 : decode bc_M_seized 31 = .ok (.iload_n 2, 1) := by decide +kernel
theorem de_M_seized_32 : decode bc_M_seized 32 = .ok (.ireturn, 1) := by decide +kernel
theorem de_M_done_0 : decode bc_M_done 0 = .ok (.bipush 10, 2) := by decide +kernel
theorem de_M_done_2 : decode bc_M_done 2 = .ok (.iload_n 1, 1) := by decide +kernel
theorem de_M_done_3 : decode bc_M_done 3 = .ok (.imul, 1) := by decide +kernel
theorem de_M_done_4 : decode bc_M_done 4 = .ok (.aload_n 0, 1) := by decide +kernel
theorem de_M_done_5 : decode bc_M_done 5 = .ok (.getfield 22, 3) := by decide +kernel
theorem de_M_done_8 : decode bc_M_done 8 = .ok (.iload_n 1, 1) := by decide +kernel
theorem de_M_done_9 : decode bc_M_done 9 = .ok (.iaload, 1) := by decide +kernel
theorem de_M_done_10 : decode bc_M_done 10 = .ok (.iadd, 1) := by decide +kernel
theorem de_M_done_11 : decode bc_M_done 11 = .ok (.iconst 1, 1) := by decide +kernel
theorem de_M_done_12 : decode bc_M_done 12 = .ok (.isub, 1) := by decide +kernel
theorem de_M_done_13 : decode bc_M_done 13 = .ok (.ireturn, 1) := by decide +kernel
theorem de_M_head_0 : decode bc_M_head 0 = .ok (.iconst (-1), 1) := by decide +kernel
theorem de_M_head_1 : decode bc_M_head 1 = .ok (.istore_n 2, 1) := by decide +kernel
theorem de_M_head_2 : decode bc_M_head 2 = .ok (.iconst 0, 1) := by decide +kernel
theorem de_M_head_3 : decode bc_M_head 3 = .ok (.istore_n 3, 1) := by decide +kernel
theorem de_M_head_4 : decode bc_M_head 4 = .ok (.iload_n 3, 1) := by decide +kernel
theorem de_M_head_5 : decode bc_M_head 5 = .ok (.aload_n 0, 1) := by decide +kernel
theorem de_M_head_6 : decode bc_M_head 6 = .ok (.getfield 78, 3) := by decide +kernel
theorem de_M_head_9 : decode bc_M_head 9 = .ok (.if_icmp .ge 84, 3) := by decide +kernel
theorem de_M_head_12 : decode bc_M_head 12 = .ok (.aload_n 0, 1) := by decide +kernel
theorem de_M_head_13 : decode bc_M_head 13 = .ok (.getfield 25, 3) := by decide +kernel
theorem de_M_head_16 : decode bc_M_head 16 = .ok (.iload_n 3, 1) := by decide +kernel
theorem de_M_head_17 : decode bc_M_head 17 = .ok (.iaload, 1) := by decide +kernel
theorem de_M_head_18 : decode bc_M_head 18 = .ok (.iconst 4, 1) := by decide +kernel
theorem de_M_head_19 : decode bc_M_head 19 = .ok (.if_icmp .ne 68, 3) := by decide +kernel
theorem de_M_head_22 : decode bc_M_head 22 = .ok (.aload_n 0, 1) := by decide +kernel
theorem de_M_head_23 : decode bc_M_head 23 = .ok (.getfield 44, 3) := by decide +kernel
theorem de_M_head_26 : decode bc_M_head 26 = .ok (.aload_n 0, 1) := by decide +kernel
theorem de_M_head_27 : decode bc_M_head 27 = .ok (.iload_n 3, 1) := by decide +kernel
theorem de_M_head_28 : decode bc_M_head 28 = .ok (.invokevirtual 109, 3) := by decide +kernel
theorem de_M_head_31 : decode bc_M_head 31 = .ok (.iaload, 1) := by decide +kernel
theorem de_M_head_32 : decode bc_M_head 32 = .ok (.iload_n 1, 1) := by decide +kernel
theorem de_M_head_33 : decode bc_M_head 33 = .ok (.if_icmp .ne 54, 3) := by decide +kernel
theorem de_M_head_36 : decode bc_M_head 36 = .ok (.iload_n 2, 1) := by decide +kernel
theorem de_M_head_37 : decode bc_M_head 37 = .ok (.ifCond .lt 48, 3) := by decide +kernel
theorem de_M_head_40 : decode bc_M_head 40 = .ok (.aload_n 0, 1) := by decide +kernel
theorem de_M_head_41 : decode bc_M_head 41 = .ok (.getfield 7, 3) := by decide +kernel
theorem de_M_head_44 : decode bc_M_head 44 = .ok (.iload_n 3, 1) := by decide +kernel
theorem de_M_head_45 : decode bc_M_head 45 = .ok (.iaload, 1) := by decide +kernel
theorem de_M_head_46 : decode bc_M_head 46 = .ok (.aload_n 0, 1) := by decide +kernel
theorem de_M_head_47 : decode bc_M_head 47 = .ok (.getfield 7, 3) := by decide +kernel
theorem de_M_head_50 : decode bc_M_head 50 = .ok (.iload_n 2, 1) := by decide +kernel
theorem de_M_head_51 : decode bc_M_head 51 = .ok (.iaload, 1) := by decide +kernel
theorem de_M_head_52 : decode bc_M_head 52 = .ok (.if_icmp .lt 33, 3) := by decide +kernel
theorem de_M_head_55 : decode bc_M_head 55 = .ok (.aload_n 0, 1) := by decide +kernel
theorem de_M_head_56 : decode bc_M_head 56 = .ok (.getfield 7, 3) := by decide +kernel
theorem de_M_head_59 : decode bc_M_head 59 = .ok (.iload_n 3, 1) := by decide +kernel
theorem de_M_head_60 : decode bc_M_head 60 = .ok (.iaload, 1) := by decide +kernel
theorem de_M_head_61 : decode bc_M_head 61 = .ok (.aload_n 0, 1) := by decide +kernel
theorem de_M_head_62 : decode bc_M_head 62 = .ok (.getfield 7, 3) := by decide +kernel
theorem de_M_head_65 : decode bc_M_head 65 = .ok (.iload_n 2, 1) := by decide +kernel
theorem de_M_head_66 : decode bc_M_head 66 = .ok (.iaload, 1) := by decide +kernel
theorem de_M_head_67 : decode bc_M_head 67 = .ok (.if_icmp .ne 20, 3) := by decide +kernel
theorem de_M_head_70 : decode bc_M_head 70 = .ok (.aload_n 0, 1) := by decide +kernel
theorem de_M_head_71 : decode bc_M_head 71 = .ok (.getfield 35, 3) := by decide +kernel
theorem de_M_head_74 : decode bc_M_head 74 = .ok (.iload_n 3, 1) := by decide +kernel
theorem de_M_head_75 : decode bc_M_head 75 = .ok (.iaload, 1) := by decide +kernel
theorem de_M_head_76 : decode bc_M_head 76 = .ok (.aload_n 0, 1) := by decide +kernel
theorem de_M_head_77 : decode bc_M_head 77 = .ok (.getfield 35, 3) := by decide +kernel
theorem de_M_head_80 : decode bc_M_head 80 = .ok (.iload_n 2, 1) := by decide +kernel
theorem de_M_head_81 : decode bc_M_head 81 = .ok (.iaload, 1) := by decide +kernel
theorem de_M_head_82 : decode bc_M_head 82 = .ok (.if_icmp .ge 5, 3) := by decide +kernel
theorem de_M_head_85 : decode bc_M_head 85 = .ok (.iload_n 3, 1) := by decide +kernel
theorem de_M_head_86 : decode bc_M_head 86 = .ok (.istore_n 2, 1) := by decide +kernel
theorem de_M_head_87 : decode bc_M_head 87 = .ok (.iinc 3 1, 3) := by decide +kernel
theorem de_M_head_90 : decode bc_M_head 90 = .ok (.goto (-86), 3) := by decide +kernel
theorem de_M_head_93 : decode bc_M_head 93 = .ok (.iload_n 2, 1) := by decide +kernel
theorem de_M_head_94 : decode bc_M_head 94 = .ok (.ireturn, 1) := by decide +kernel
theorem de_M_rest_0 : decode bc_M_rest 0 = .ok (.aload_n 0, 1) := by decide +kernel
theorem de_M_rest_1 : decode bc_M_rest 1 = .ok (.getfield 53, 3) := by decide +kernel
theorem de_M_rest_4 : decode bc_M_rest 4 = .ok (.iload_n 1, 1) := by decide +kernel
theorem de_M_rest_5 : decode bc_M_rest 5 = .ok (.iaload, 1) := by decide +kernel
theorem de_M_rest_6 : decode bc_M_rest 6 = .ok (.aload_n 0, 1) := by decide +kernel
theorem de_M_rest_7 : decode bc_M_rest 7 = .ok (.iload_n 1, 1) := by decide +kernel
theorem de_M_rest_8 : decode bc_M_rest 8 = .ok (.invokevirtual 94, 3) := by decide +kernel
theorem de_M_rest_11 : decode bc_M_rest 11 = .ok (.isub, 1) := by decide +kernel
theorem de_M_rest_12 : decode bc_M_rest 12 = .ok (.ireturn, 1) := by decide +kernel
theorem de_M_enter_0 : decode bc_M_enter 0 = .ok (.aload_n 0, 1) := by decide +kernel
theorem de_M_enter_1 : decode bc_M_enter 1 = .ok (.getfield 25, 3) := by decide +kernel
theorem de_M_enter_4 : decode bc_M_enter 4 = .ok (.iload_n 1, 1) := by decide +kernel
theorem de_M_enter_5 : decode bc_M_enter 5 = .ok (.iload_n 2, 1) := by decide +kernel
theorem de_M_enter_6 : decode bc_M_enter 6 = .ok (.iastore, 1) := by decide +kernel
theorem de_M_enter_7 : decode bc_M_enter 7 = .ok (.aload_n 0, 1) := by decide +kernel
theorem de_M_enter_8 : decode bc_M_enter 8 = .ok (.getfield 28, 3) := by decide +kernel
theorem de_M_enter_11 : decode bc_M_enter 11 = .ok (.iload_n 1, 1) := by decide +kernel
theorem de_M_enter_12 : decode bc_M_enter 12 = .ok (.lload_n 3, 1) := by decide +kernel
theorem de_M_enter_13 : decode bc_M_enter 13 = .ok (.lastore, 1) := by decide +kernel
theorem de_M_enter_14 : decode bc_M_enter 14 = .ok (.aload_n 0, 1) := by decide +kernel
theorem de_M_enter_15 : decode bc_M_enter 15 = .ok (.getfield 32, 3) := by decide +kernel
theorem de_M_enter_18 : decode bc_M_enter 18 = .ok (.iload_n 1, 1) := by decide +kernel
theorem de_M_enter_19 : decode bc_M_enter 19 = .ok (.aload_n 0, 1) := by decide +kernel
theorem de_M_enter_20 : decode bc_M_enter 20 = .ok (.getfield 102, 3) := by decide +kernel
theorem de_M_enter_23 : decode bc_M_enter 23 = .ok (.iastore, 1) := by decide +kernel
theorem de_M_enter_24 : decode bc_M_enter 24 = .ok (.aload_n 0, 1) := by decide +kernel
theorem de_M_enter_25 : decode bc_M_enter 25 = .ok (.dup, 1) := by decide +kernel
theorem de_M_enter_26 : decode bc_M_enter 26 = .ok (.getfield 102, 3) := by decide +kernel
theorem de_M_enter_29 : decode bc_M_enter 29 = .ok (.iconst 1, 1) := by decide +kernel
theorem de_M_enter_30 : decode bc_M_enter 30 = .ok (.iadd, 1) := by decide +kernel
theorem de_M_enter_31 : decode bc_M_enter 31 = .ok (.putfield 102, 3) := by decide +kernel
theorem de_M_enter_34 : decode bc_M_enter 34 = .ok (.return_, 1) := by decide +kernel
theorem de_M_serve_0 : decode bc_M_serve 0 = .ok (.iconst 0, 1) := by decide +kernel
theorem de_M_serve_1 : decode bc_M_serve 1 = .ok (.istore_n 2, 1) := by decide +kernel
theorem de_M_serve_2 : decode bc_M_serve 2 = .ok (.iload_n 2, 1) := by decide +kernel
theorem de_M_serve_3 : decode bc_M_serve 3 = .ok (.bipush 12, 2) := by decide +kernel
theorem de_M_serve_5 : decode bc_M_serve 5 = .ok (.if_icmp .ge 91, 3) := by decide +kernel
theorem de_M_serve_8 : decode bc_M_serve 8 = .ok (.aload_n 0, 1) := by decide +kernel
theorem de_M_serve_9 : decode bc_M_serve 9 = .ok (.iload_n 1, 1) := by decide +kernel
theorem de_M_serve_10 : decode bc_M_serve 10 = .ok (.invokevirtual 112, 3) := by decide +kernel
theorem de_M_serve_13 : decode bc_M_serve 13 = .ok (.istore_n 3, 1) := by decide +kernel
theorem de_M_serve_14 : decode bc_M_serve 14 = .ok (.iload_n 3, 1) := by decide +kernel
theorem de_M_serve_15 : decode bc_M_serve 15 = .ok (.ifCond .lt 21, 3) := by decide +kernel
theorem de_M_serve_18 : decode bc_M_serve 18 = .ok (.aload_n 0, 1) := by decide +kernel
theorem de_M_serve_19 : decode bc_M_serve 19 = .ok (.getfield 47, 3) := by decide +kernel
theorem de_M_serve_22 : decode bc_M_serve 22 = .ok (.aload_n 0, 1) := by decide +kernel
theorem de_M_serve_23 : decode bc_M_serve 23 = .ok (.iload_n 3, 1) := by decide +kernel
theorem de_M_serve_24 : decode bc_M_serve 24 = .ok (.invokevirtual 109, 3) := by decide +kernel
theorem de_M_serve_27 : decode bc_M_serve 27 = .ok (.iaload, 1) := by decide +kernel
theorem de_M_serve_28 : decode bc_M_serve 28 = .ok (.aload_n 0, 1) := by decide +kernel
theorem de_M_serve_29 : decode bc_M_serve 29 = .ok (.iload_n 1, 1) := by decide +kernel
theorem de_M_serve_30 : decode bc_M_serve 30 = .ok (.invokevirtual 115, 3) := by decide +kernel
theorem de_M_serve_33 : decode bc_M_serve 33 = .ok (.if_icmp .le 4, 3) := by decide +kernel
theorem de_M_serve_36 : decode bc_M_serve 36 = .ok (.return_, 1) := by decide +kernel
theorem de_M_serve_37 : decode bc_M_serve 37 = .ok (.aload_n 0, 1) := by decide +kernel
theorem de_M_serve_38 : decode bc_M_serve 38 = .ok (.getfield 50, 3) := by decide +kernel
theorem de_M_serve_41 : decode bc_M_serve 41 = .ok (.iconst 4, 1) := by decide +kernel
theorem de_M_serve_42 : decode bc_M_serve 42 = .ok (.iload_n 3, 1) := by decide +kernel
theorem de_M_serve_43 : decode bc_M_serve 43 = .ok (.imul, 1) := by decide +kernel
theorem de_M_serve_44 : decode bc_M_serve 44 = .ok (.iload_n 1, 1) := by decide +kernel
theorem de_M_serve_45 : decode bc_M_serve 45 = .ok (.iadd, 1) := by decide +kernel
theorem de_M_serve_46 : decode bc_M_serve 46 = .ok (.dup2, 1) := by decide +kernel
theorem de_M_serve_47 : decode bc_M_serve 47 = .ok (.iaload, 1) := by decide +kernel
theorem de_M_serve_48 : decode bc_M_serve 48 = .ok (.aload_n 0, 1) := by decide +kernel
theorem de_M_serve_49 : decode bc_M_serve 49 = .ok (.getfield 47, 3) := by decide +kernel
theorem de_M_serve_52 : decode bc_M_serve 52 = .ok (.aload_n 0, 1) := by decide +kernel
theorem de_M_serve_53 : decode bc_M_serve 53 = .ok (.iload_n 3, 1) := by decide +kernel
theorem de_M_serve_54 : decode bc_M_serve 54 = .ok (.invokevirtual 109, 3) := by decide +kernel
theorem de_M_serve_57 : decode bc_M_serve 57 = .ok (.iaload, 1) := by decide +kernel
theorem de_M_serve_58 : decode bc_M_serve 58 = .ok (.iadd, 1) := by decide +kernel
theorem de_M_serve_59 : decode bc_M_serve 59 = .ok (.iastore, 1) := by decide +kernel
theorem de_M_serve_60 : decode bc_M_serve 60 = .ok (.aload_n 0, 1) := by decide +kernel
theorem de_M_serve_61 : decode bc_M_serve 61 = .ok (.getfield 63, 3) := by decide +kernel
theorem de_M_serve_64 : decode bc_M_serve 64 = .ok (.iload_n 1, 1) := by decide +kernel
theorem de_M_serve_65 : decode bc_M_serve 65 = .ok (.dup2, 1) := by decide +kernel
theorem de_M_serve_66 : decode bc_M_serve 66 = .ok (.laload, 1) := by decide +kernel
theorem de_M_serve_67 : decode bc_M_serve 67 = .ok (.aload_n 0, 1) := by decide +kernel
theorem de_M_serve_68 : decode bc_M_serve 68 = .ok (.getfield 118, 3) := by decide +kernel
theorem de_M_serve_71 : decode bc_M_serve 71 = .ok (.aload_n 0, 1) := by decide +kernel
theorem de_M_serve_72 : decode bc_M_serve 72 = .ok (.getfield 38, 3) := by decide +kernel
theorem de_M_serve_75 : decode bc_M_serve 75 = .ok (.iload_n 3, 1) := by decide +kernel
theorem de_M_serve_76 : decode bc_M_serve 76 = .ok (.laload, 1) := by decide +kernel
theorem de_M_serve_77 : decode bc_M_serve 77 = .ok (.lsub, 1) := by decide +kernel
theorem de_M_serve_78 : decode bc_M_serve 78 = .ok (.ladd, 1) := by decide +kernel
theorem de_M_serve_79 : decode bc_M_serve 79 = .ok (.lastore, 1) := by decide +kernel
theorem de_M_serve_80 : decode bc_M_serve 80 = .ok (.aload_n 0, 1) := by decide +kernel
theorem de_M_serve_81 : decode bc_M_serve 81 = .ok (.iload_n 3, 1) := by decide +kernel
theorem de_M_serve_82 : decode bc_M_serve 82 = .ok (.iconst 1, 1) := by decide +kernel
theorem de_M_serve_83 : decode bc_M_serve 83 = .ok (.aload_n 0, 1) := by decide +kernel
theorem de_M_serve_84 : decode bc_M_serve 84 = .ok (.getfield 118, 3) := by decide +kernel
theorem de_M_serve_87 : decode bc_M_serve 87 = .ok (.invokevirtual 122, 3) := by decide +kernel
theorem de_M_serve_90 : decode bc_M_serve 90 = .ok (.iinc 2 1, 3) := by decide +kernel
theorem de_M_serve_93 : decode bc_M_serve 93 = .ok (.goto (-91), 3) := by decide +kernel
theorem de_M_serve_96 : decode bc_M_serve 96 = .ok (.return_, 1) := by decide +kernel
theorem de_M_resource_0 : decode bc_M_resource 0 = .ok (.aload_n 0, 1) := by decide +kernel
theorem de_M_resource_1 : decode bc_M_resource 1 = .ok (.iload_n 1, 1) := by decide +kernel
theorem de_M_resource_2 : decode bc_M_resource 2 = .ok (.iconst 0, 1) := by decide +kernel
theorem de_M_resource_3 : decode bc_M_resource 3 = .ok (.iconst 3, 1) := by decide +kernel
theorem de_M_resource_4 : decode bc_M_resource 4 = .ok (.invokevirtual 83, 3) := by decide +kernel
theorem de_M_resource_7 : decode bc_M_resource 7 = .ok (.ifCond .eq 23, 3) := by decide +kernel
theorem de_M_resource_10 : decode bc_M_resource 10 = .ok (.aload_n 0, 1) := by decide +kernel
theorem de_M_resource_11 : decode bc_M_resource 11 = .ok (.iload_n 2, 1) := by decide +kernel
theorem de_M_resource_12 : decode bc_M_resource 12 = .ok (.iconst 0, 1) := by decide +kernel
theorem de_M_resource_13 : decode bc_M_resource 13 = .ok (.bipush 9, 2) := by decide +kernel
theorem de_M_resource_15 : decode bc_M_resource 15 = .ok (.invokevirtual 83, 3) := by decide +kernel
theorem de_M_resource_18 : decode bc_M_resource 18 = .ok (.ifCond .eq 12, 3) := by decide +kernel
theorem de_M_resource_21 : decode bc_M_resource 21 = .ok (.aload_n 0, 1) := by decide +kernel
theorem de_M_resource_22 : decode bc_M_resource 22 = .ok (.iload_n 1, 1) := by decide +kernel
theorem de_M_resource_23 : decode bc_M_resource 23 = .ok (.invokevirtual 94, 3) := by decide +kernel
theorem de_M_resource_26 : decode bc_M_resource 26 = .ok (.iload_n 2, 1) := by decide +kernel
theorem de_M_resource_27 : decode bc_M_resource 27 = .ok (.if_icmp .le 5, 3) := by decide +kernel
theorem de_M_resource_30 : decode bc_M_resource 30 = .ok (.iconst 0, 1) := by decide +kernel
theorem de_M_resource_31 : decode bc_M_resource 31 = .ok (.ireturn, 1) := by decide +kernel
theorem de_M_resource_32 : decode bc_M_resource 32 = .ok (.aload_n 0, 1) := by decide +kernel
theorem de_M_resource_33 : decode bc_M_resource 33 = .ok (.getfield 53, 3) := by decide +kernel
theorem de_M_resource_36 : decode bc_M_resource 36 = .ok (.iload_n 1, 1) := by decide +kernel
theorem de_M_resource_37 : decode bc_M_resource 37 = .ok (.iload_n 2, 1) := by decide +kernel
theorem de_M_resource_38 : decode bc_M_resource 38 = .ok (.iastore, 1) := by decide +kernel
theorem de_M_resource_39 : decode bc_M_resource 39 = .ok (.aload_n 0, 1) := by decide +kernel
theorem de_M_resource_40 : decode bc_M_resource 40 = .ok (.getfield 56, 3) := by decide +kernel
theorem de_M_resource_43 : decode bc_M_resource 43 = .ok (.iload_n 1, 1) := by decide +kernel
theorem de_M_resource_44 : decode bc_M_resource 44 = .ok (.iload_n 3, 1) := by decide +kernel
theorem de_M_resource_45 : decode bc_M_resource 45 = .ok (.bastore, 1) := by decide +kernel
theorem de_M_resource_46 : decode bc_M_resource 46 = .ok (.aload_n 0, 1) := by decide +kernel
theorem de_M_resource_47 : decode bc_M_resource 47 = .ok (.iload_n 1, 1) := by decide +kernel
theorem de_M_resource_48 : decode bc_M_resource 48 = .ok (.invokevirtual 98, 3) := by decide +kernel
theorem de_M_resource_51 : decode bc_M_resource 51 = .ok (.iconst 1, 1) := by decide +kernel
theorem de_M_resource_52 : decode bc_M_resource 52 = .ok (.ireturn, 1) := by decide +kernel
theorem de_M_tank_0 : decode bc_M_tank 0 = .ok (.aload_n 0, 1) := by decide +kernel
theorem de_M_tank_1 : decode bc_M_tank 1 = .ok (.iload_n 1, 1) := by decide +kernel
theorem de_M_tank_2 : decode bc_M_tank 2 = .ok (.iconst 0, 1) := by decide +kernel
theorem de_M_tank_3 : decode bc_M_tank 3 = .ok (.iconst 3, 1) := by decide +kernel
theorem de_M_tank_4 : decode bc_M_tank 4 = .ok (.invokevirtual 83, 3) := by decide +kernel
theorem de_M_tank_7 : decode bc_M_tank 7 = .ok (.ifCond .eq 25, 3) := by decide +kernel
theorem de_M_tank_10 : decode bc_M_tank 10 = .ok (.aload_n 0, 1) := by decide +kernel
theorem de_M_tank_11 : decode bc_M_tank 11 = .ok (.iload_n 2, 1) := by decide +kernel
theorem de_M_tank_12 : decode bc_M_tank 12 = .ok (.iconst 0, 1) := by decide +kernel
theorem de_M_tank_13 : decode bc_M_tank 13 = .ok (.sipush 1000, 3) := by decide +kernel
theorem de_M_tank_16 : decode bc_M_tank 16 = .ok (.invokevirtual 83, 3) := by decide +kernel
theorem de_M_tank_19 : decode bc_M_tank 19 = .ok (.ifCond .eq 13, 3) := by decide +kernel
theorem de_M_tank_22 : decode bc_M_tank 22 = .ok (.aload_n 0, 1) := by decide +kernel
theorem de_M_tank_23 : decode bc_M_tank 23 = .ok (.iload_n 3, 1) := by decide +kernel
theorem de_M_tank_24 : decode bc_M_tank 24 = .ok (.iconst 0, 1) := by decide +kernel
theorem de_M_tank_25 : decode bc_M_tank 25 = .ok (.iload_n 2, 1) := by decide +kernel
theorem de_M_tank_26 : decode bc_M_tank 26 = .ok (.invokevirtual 83, 3) := by decide +kernel
theorem de_M_tank_29 : decode bc_M_tank 29 = .ok (.ifCond .ne 5, 3) := by decide +kernel
theorem de_M_tank_32 : decode bc_M_tank 32 = .ok (.iconst 0, 1) := by decide +kernel
theorem de_M_tank_33 : decode bc_M_tank 33 = .ok (.ireturn, 1) := by decide +kernel
theorem de_M_tank_34 : decode bc_M_tank 34 = .ok (.aload_n 0, 1) := by decide +kernel
theorem de_M_tank_35 : decode bc_M_tank 35 = .ok (.getfield 66, 3) := by decide +kernel
theorem de_M_tank_38 : decode bc_M_tank 38 = .ok (.iload_n 1, 1) := by decide +kernel
theorem de_M_tank_39 : decode bc_M_tank 39 = .ok (.iload_n 2, 1) := by decide +kernel
theorem de_M_tank_40 : decode bc_M_tank 40 = .ok (.iastore, 1) := by decide +kernel
theorem de_M_tank_41 : decode bc_M_tank 41 = .ok (.aload_n 0, 1) := by decide +kernel
theorem de_M_tank_42 : decode bc_M_tank 42 = .ok (.getfield 69, 3) := by decide +kernel
theorem de_M_tank_45 : decode bc_M_tank 45 = .ok (.iload_n 1, 1) := by decide +kernel
theorem de_M_tank_46 : decode bc_M_tank 46 = .ok (.iload_n 3, 1) := by decide +kernel
theorem de_M_tank_47 : decode bc_M_tank 47 = .ok (.iastore, 1) := by decide +kernel
theorem de_M_tank_48 : decode bc_M_tank 48 = .ok (.iconst 1, 1) := by decide +kernel
theorem de_M_tank_49 : decode bc_M_tank 49 = .ok (.ireturn, 1) := by decide +kernel
theorem de_M_sooner_0 : decode bc_M_sooner 0 = .ok (.aload_n 0, 1) := by decide +kernel
theorem de_M_sooner_1 : decode bc_M_sooner 1 = .ok (.getfield 28, 3) := by decide +kernel
theorem de_M_sooner_4 : decode bc_M_sooner 4 = .ok (.iload_n 1, 1) := by decide +kernel
theorem de_M_sooner_5 : decode bc_M_sooner 5 = .ok (.laload, 1) := by decide +kernel
theorem de_M_sooner_6 : decode bc_M_sooner 6 = .ok (.aload_n 0, 1) := by decide +kernel
theorem de_M_sooner_7 : decode bc_M_sooner 7 = .ok (.getfield 28, 3) := by decide +kernel
theorem de_M_sooner_10 : decode bc_M_sooner 10 = .ok (.iload_n 2, 1) := by decide +kernel
theorem de_M_sooner_11 : decode bc_M_sooner 11 = .ok (.laload, 1) := by decide +kernel
theorem de_M_sooner_12 : decode bc_M_sooner 12 = .ok (.lcmp, 1) := by decide +kernel
theorem de_M_sooner_13 : decode bc_M_sooner 13 = .ok (.ifCond .eq 25, 3) := by decide +kernel
theorem de_M_sooner_16 : decode bc_M_sooner 16 = .ok (.aload_n 0, 1) := by decide +kernel
theorem de_M_sooner_17 : decode bc_M_sooner 17 = .ok (.getfield 28, 3) := by decide +kernel
theorem de_M_sooner_20 : decode bc_M_sooner 20 = .ok (.iload_n 1, 1) := by decide +kernel
theorem de_M_sooner_21 : decode bc_M_sooner 21 = .ok (.laload, 1) := by decide +kernel
theorem de_M_sooner_22 : decode bc_M_sooner 22 = .ok (.aload_n 0, 1) := by decide +kernel
theorem de_M_sooner_23 : decode bc_M_sooner 23 = .ok (.getfield 28, 3) := by decide +kernel
theorem de_M_sooner_26 : decode bc_M_sooner 26 = .ok (.iload_n 2, 1) := by decide +kernel
theorem de_M_sooner_27 : decode bc_M_sooner 27 = .ok (.laload, 1) := by decide +kernel
theorem de_M_sooner_28 : decode bc_M_sooner 28 = .ok (.lcmp, 1) := by decide +kernel
theorem de_M_sooner_29 : decode bc_M_sooner 29 = .ok (.ifCond .ge 7, 3) := by decide +kernel
theorem de_M_sooner_32 : decode bc_M_sooner 32 = .ok (.iconst 1, 1) := by decide +kernel
theorem de_M_sooner_33 : decode bc_M_sooner 33 = .ok (.goto 4, 3) := by decide +kernel
theorem de_M_sooner_36 : decode bc_M_sooner 36 = .ok (.iconst 0, 1) := by decide +kernel
theorem de_M_sooner_37 : decode bc_M_sooner 37 = .ok (.ireturn, 1) := by decide +kernel
theorem de_M_sooner_38 : decode bc_M_sooner 38 = .ok (.aload_n 0, 1) := by decide +kernel
theorem de_M_sooner_39 : decode bc_M_sooner 39 = .ok (.getfield 7, 3) := by decide +kernel
theorem de_M_sooner_42 : decode bc_M_sooner 42 = .ok (.iload_n 1, 1) := by decide +kernel
theorem de_M_sooner_43 : decode bc_M_sooner 43 = .ok (.iaload, 1) := by decide +kernel
theorem de_M_sooner_44 : decode bc_M_sooner 44 = .ok (.aload_n 0, 1) := by decide +kernel
theorem de_M_sooner_45 : decode bc_M_sooner 45 = .ok (.getfield 7, 3) := by decide +kernel
theorem de_M_sooner_48 : decode bc_M_sooner 48 = .ok (.iload_n 2, 1) := by decide +kernel
theorem de_M_sooner_49 : decode bc_M_sooner 49 = .ok (.iaload, 1) := by decide +kernel
theorem de_M_sooner_50 : decode bc_M_sooner 50 = .ok (.if_icmp .eq 26, 3) := by decide +kernel
theorem de_M_sooner_53 : decode bc_M_sooner 53 = .ok (.aload_n 0, 1) := by decide +kernel
theorem de_M_sooner_54 : decode bc_M_sooner 54 = .ok (.getfield 7, 3) := by decide +kernel
theorem de_M_sooner_57 : decode bc_M_sooner 57 = .ok (.iload_n 1, 1) := by decide +kernel
theorem de_M_sooner_58 : decode bc_M_sooner 58 = .ok (.iaload, 1) := by decide +kernel
theorem de_M_sooner_59 : decode bc_M_sooner 59 = .ok (.aload_n 0, 1) := by decide +kernel
theorem de_M_sooner_60 : decode bc_M_sooner 60 = .ok (.getfield 7, 3) := by decide +kernel
theorem de_M_sooner_63 : decode bc_M_sooner 63 = .ok (.iload_n 2, 1) := by decide +kernel
theorem de_M_sooner_64 : decode bc_M_sooner 64 = .ok (.iaload, 1) := by decide +kernel
theorem de_M_sooner_65 : decode bc_M_sooner 65 = .ok (.if_icmp .ge 7, 3) := by decide +kernel
theorem de_M_sooner_68 : decode bc_M_sooner 68 = .ok (.iconst 1, 1) := by decide +kernel
theorem de_M_sooner_69 : decode bc_M_sooner 69 = .ok (.goto 27, 3) := by decide +kernel
theorem de_M_sooner_72 : decode bc_M_sooner 72 = .ok (.iconst 0, 1) := by decide +kernel
theorem de_M_sooner_73 : decode bc_M_sooner 73 = .ok (.goto 23, 3) := by decide +kernel
theorem de_M_sooner_76 : decode bc_M_sooner 76 = .ok (.aload_n 0, 1) := by decide +kernel
theorem de_M_sooner_77 : decode bc_M_sooner 77 = .ok (.getfield 32, 3) := by decide +kernel
theorem de_M_sooner_80 : decode bc_M_sooner 80 = .ok (.iload_n 1, 1) := by decide +kernel
theorem de_M_sooner_81 : decode bc_M_sooner 81 = .ok (.iaload, 1) := by decide +kernel
theorem de_M_sooner_82 : decode bc_M_sooner 82 = .ok (.aload_n 0, 1) := by decide +kernel
theorem de_M_sooner_83 : decode bc_M_sooner 83 = .ok (.getfield 32, 3) := by decide +kernel
theorem de_M_sooner_86 : decode bc_M_sooner 86 = .ok (.iload_n 2, 1) := by decide +kernel
theorem de_M_sooner_87 : decode bc_M_sooner 87 = .ok (.iaload, 1) := by decide +kernel
theorem de_M_sooner_88 : decode bc_M_sooner 88 = .ok (.if_icmp .ge 7, 3) := by decide +kernel
theorem de_M_sooner_91 : decode bc_M_sooner 91 = .ok (.iconst 1, 1) := by decide +kernel
theorem de_M_sooner_92 : decode bc_M_sooner 92 = .ok (.goto 4, 3) := by decide +kernel
theorem de_M_sooner_95 : decode bc_M_sooner 95 = .ok (.iconst 0, 1) := by decide +kernel
theorem de_M_sooner_96 : decode bc_M_sooner 96 = .ok (.ireturn, 1) := by decide +kernel
theorem de_M_first_0 : decode bc_M_first 0 = .ok (.iconst (-1), 1) := by decide +kernel
theorem de_M_first_1 : decode bc_M_first 1 = .ok (.istore_n 1, 1) := by decide +kernel
theorem de_M_first_2 : decode bc_M_first 2 = .ok (.iconst 0, 1) := by decide +kernel
theorem de_M_first_3 : decode bc_M_first 3 = .ok (.istore_n 2, 1) := by decide +kernel
theorem de_M_first_4 : decode bc_M_first 4 = .ok (.iload_n 2, 1) := by decide +kernel
theorem de_M_first_5 : decode bc_M_first 5 = .ok (.aload_n 0, 1) := by decide +kernel
theorem de_M_first_6 : decode bc_M_first 6 = .ok (.getfield 78, 3) := by decide +kernel
theorem de_M_first_9 : decode bc_M_first 9 = .ok (.if_icmp .ge 33, 3) := by decide +kernel
theorem de_M_first_12 : decode bc_M_first 12 = .ok (.aload_n 0, 1) := by decide +kernel
theorem de_M_first_13 : decode bc_M_first 13 = .ok (.getfield 32, 3) := by decide +kernel
theorem de_M_first_16 : decode bc_M_first 16 = .ok (.iload_n 2, 1) := by decide +kernel
theorem de_M_first_17 : decode bc_M_first 17 = .ok (.iaload, 1) := by decide +kernel
theorem de_M_first_18 : decode bc_M_first 18 = .ok (.ifCond .lt 18, 3) := by decide +kernel
theorem de_M_first_21 : decode bc_M_first 21 = .ok (.iload_n 1, 1) := by decide +kernel
theorem de_M_first_22 : decode bc_M_first 22 = .ok (.ifCond .lt 12, 3) := by decide +kernel
theorem de_M_first_25 : decode bc_M_first 25 = .ok (.aload_n 0, 1) := by decide +kernel
theorem de_M_first_26 : decode bc_M_first 26 = .ok (.iload_n 2, 1) := by decide +kernel
theorem de_M_first_27 : decode bc_M_first 27 = .ok (.iload_n 1, 1) := by decide +kernel
theorem de_M_first_28 : decode bc_M_first 28 = .ok (.invokevirtual 105, 3) := by decide +kernel
theorem de_M_first_31 : decode bc_M_first 31 = .ok (.ifCond .eq 5, 3) := by decide +kernel
theorem de_M_first_34 : decode bc_M_first 34 = .ok (.iload_n 2, 1) := by decide +kernel
theorem de_M_first_35 : decode bc_M_first 35 = .ok (.istore_n 1, 1) := by decide +kernel
theorem de_M_first_36 : decode bc_M_first 36 = .ok (.iinc 2 1, 3) := by decide +kernel
theorem de_M_first_39 : decode bc_M_first 39 = .ok (.goto (-35), 3) := by decide +kernel
theorem de_M_first_42 : decode bc_M_first 42 = .ok (.iload_n 1, 1) := by decide +kernel
theorem de_M_first_43 : decode bc_M_first 43 = .ok (.ireturn, 1) := by decide +kernel
theorem de_M_reach_0 : decode bc_M_reach 0 = .ok (.aload_n 0, 1) := by decide +kernel
theorem de_M_reach_1 : decode bc_M_reach 1 = .ok (.iload_n 2, 1) := by decide +kernel
theorem de_M_reach_2 : decode bc_M_reach 2 = .ok (.invokevirtual 115, 3) := by decide +kernel
theorem de_M_reach_5 : decode bc_M_reach 5 = .ok (.istore_n 3, 1) := by decide +kernel
theorem de_M_reach_6 : decode bc_M_reach 6 = .ok (.iconst 0, 1) := by decide +kernel
theorem de_M_reach_7 : decode bc_M_reach 7 = .ok (.istore 4, 2) := by decide +kernel
theorem de_M_reach_9 : decode bc_M_reach 9 = .ok (.iload 4, 2) := by decide +kernel
theorem de_M_reach_11 : decode bc_M_reach 11 = .ok (.aload_n 0, 1) := by decide +kernel
theorem de_M_reach_12 : decode bc_M_reach 12 = .ok (.getfield 78, 3) := by decide +kernel
theorem de_M_reach_15 : decode bc_M_reach 15 = .ok (.if_icmp .ge 43, 3) := by decide +kernel
theorem de_M_reach_18 : decode bc_M_reach 18 = .ok (.iload_n 3, 1) := by decide +kernel
theorem de_M_reach_19 : decode bc_M_reach 19 = .ok (.aload_n 0, 1) := by decide +kernel
theorem de_M_reach_20 : decode bc_M_reach 20 = .ok (.getfield 7, 3) := by decide +kernel
theorem de_M_reach_23 : decode bc_M_reach 23 = .ok (.iload 4, 2) := by decide +kernel
theorem de_M_reach_25 : decode bc_M_reach 25 = .ok (.iaload, 1) := by decide +kernel
theorem de_M_reach_26 : decode bc_M_reach 26 = .ok (.aload_n 0, 1) := by decide +kernel
theorem de_M_reach_27 : decode bc_M_reach 27 = .ok (.getfield 7, 3) := by decide +kernel
theorem de_M_reach_30 : decode bc_M_reach 30 = .ok (.iload_n 1, 1) := by decide +kernel
theorem de_M_reach_31 : decode bc_M_reach 31 = .ok (.iaload, 1) := by decide +kernel
theorem de_M_reach_32 : decode bc_M_reach 32 = .ok (.if_icmp .le 17, 3) := by decide +kernel
theorem de_M_reach_35 : decode bc_M_reach 35 = .ok (.aload_n 0, 1) := by decide +kernel
theorem de_M_reach_36 : decode bc_M_reach 36 = .ok (.getfield 50, 3) := by decide +kernel
theorem de_M_reach_39 : decode bc_M_reach 39 = .ok (.iconst 4, 1) := by decide +kernel
theorem de_M_reach_40 : decode bc_M_reach 40 = .ok (.iload 4, 2) := by decide +kernel
theorem de_M_reach_42 : decode bc_M_reach 42 = .ok (.imul, 1) := by decide +kernel
theorem de_M_reach_43 : decode bc_M_reach 43 = .ok (.iload_n 2, 1) := by decide +kernel
theorem de_M_reach_44 : decode bc_M_reach 44 = .ok (.iadd, 1) := by decide +kernel
theorem de_M_reach_45 : decode bc_M_reach 45 = .ok (.iaload, 1) := by decide +kernel
theorem de_M_reach_46 : decode bc_M_reach 46 = .ok (.goto 4, 3) := by decide +kernel
theorem de_M_reach_49 : decode bc_M_reach 49 = .ok (.iconst 0, 1) := by decide +kernel
theorem de_M_reach_50 : decode bc_M_reach 50 = .ok (.iadd, 1) := by decide +kernel
theorem de_M_reach_51 : decode bc_M_reach 51 = .ok (.istore_n 3, 1) := by decide +kernel
theorem de_M_reach_52 : decode bc_M_reach 52 = .ok (.iinc 4 1, 3) := by decide +kernel
theorem de_M_reach_55 : decode bc_M_reach 55 = .ok (.goto (-46), 3) := by decide +kernel
theorem de_M_reach_58 : decode bc_M_reach 58 = .ok (.iload_n 3, 1) := by decide +kernel
theorem de_M_reach_59 : decode bc_M_reach 59 = .ok (.ireturn, 1) := by decide +kernel
theorem de_M_victim_0 : decode bc_M_victim 0 = .ok (.iconst (-1), 1) := by decide +kernel
theorem de_M_victim_1 : decode bc_M_victim 1 = .ok (.istore_n 3, 1) := by decide +kernel
theorem de_M_victim_2 : decode bc_M_victim 2 = .ok (.iconst 0, 1) := by decide +kernel
theorem de_M_victim_3 : decode bc_M_victim 3 = .ok (.istore 4, 2) := by decide +kernel
theorem de_M_victim_5 : decode bc_M_victim 5 = .ok (.iload 4, 2) := by decide +kernel
theorem de_M_victim_7 : decode bc_M_victim 7 = .ok (.aload_n 0, 1) := by decide +kernel
theorem de_M_victim_8 : decode bc_M_victim 8 = .ok (.getfield 78, 3) := by decide +kernel
theorem de_M_victim_11 : decode bc_M_victim 11 = .ok (.if_icmp .ge 62, 3) := by decide +kernel
theorem de_M_victim_14 : decode bc_M_victim 14 = .ok (.aload_n 0, 1) := by decide +kernel
theorem de_M_victim_15 : decode bc_M_victim 15 = .ok (.getfield 7, 3) := by decide +kernel
theorem de_M_victim_18 : decode bc_M_victim 18 = .ok (.iload 4, 2) := by decide +kernel
theorem de_M_victim_20 : decode bc_M_victim 20 = .ok (.iaload, 1) := by decide +kernel
theorem de_M_victim_21 : decode bc_M_victim 21 = .ok (.aload_n 0, 1) := by decide +kernel
theorem de_M_victim_22 : decode bc_M_victim 22 = .ok (.getfield 7, 3) := by decide +kernel
theorem de_M_victim_25 : decode bc_M_victim 25 = .ok (.iload_n 1, 1) := by decide +kernel
theorem de_M_victim_26 : decode bc_M_victim 26 = .ok (.iaload, 1) := by decide +kernel
theorem de_M_victim_27 : decode bc_M_victim 27 = .ok (.if_icmp .le 40, 3) := by decide +kernel
theorem de_M_victim_30 : decode bc_M_victim 30 = .ok (.aload_n 0, 1) := by decide +kernel
theorem de_M_victim_31 : decode bc_M_victim 31 = .ok (.getfield 50, 3) := by decide +kernel
theorem de_M_victim_34 : decode bc_M_victim 34 = .ok (.iconst 4, 1) := by decide +kernel
theorem de_M_victim_35 : decode bc_M_victim 35 = .ok (.iload 4, 2) := by decide +kernel
theorem de_M_victim_37 : decode bc_M_victim 37 = .ok (.imul, 1) := by decide +kernel
theorem de_M_victim_38 : decode bc_M_victim 38 = .ok (.iload_n 2, 1) := by decide +kernel
theorem de_M_victim_39 : decode bc_M_victim 39 = .ok (.iadd, 1) := by decide +kernel
theorem de_M_victim_40 : decode bc_M_victim 40 = .ok (.iaload, 1) := by decide +kernel
theorem de_M_victim_41 : decode bc_M_victim 41 = .ok (.ifCond .le 26, 3) := by decide +kernel
theorem de_M_victim_44 : decode bc_M_victim 44 = .ok (.iload_n 3, 1) := by decide +kernel
theorem de_M_victim_45 : decode bc_M_victim 45 = .ok (.ifCond .lt 19, 3) := by decide +kernel
theorem de_M_victim_48 : decode bc_M_victim 48 = .ok (.aload_n 0, 1) := by decide +kernel
theorem de_M_victim_49 : decode bc_M_victim 49 = .ok (.getfield 7, 3) := by decide +kernel
theorem de_M_victim_52 : decode bc_M_victim 52 = .ok (.iload 4, 2) := by decide +kernel
theorem de_M_victim_54 : decode bc_M_victim 54 = .ok (.iaload, 1) := by decide +kernel
theorem de_M_victim_55 : decode bc_M_victim 55 = .ok (.aload_n 0, 1) := by decide +kernel
theorem de_M_victim_56 : decode bc_M_victim 56 = .ok (.getfield 7, 3) := by decide +kernel
theorem de_M_victim_59 : decode bc_M_victim 59 = .ok (.iload_n 3, 1) := by decide +kernel
theorem de_M_victim_60 : decode bc_M_victim 60 = .ok (.iaload, 1) := by decide +kernel
theorem de_M_victim_61 : decode bc_M_victim 61 = .ok (.if_icmp .lt 6, 3) := by decide +kernel
theorem de_M_victim_64 : decode bc_M_victim 64 = .ok (.iload 4, 2) := by decide +kernel
theorem de_M_victim_66 : decode bc_M_victim 66 = .ok (.istore_n 3, 1) := by decide +kernel
theorem de_M_victim_67 : decode bc_M_victim 67 = .ok (.iinc 4 1, 3) := by decide +kernel
theorem de_M_victim_70 : decode bc_M_victim 70 = .ok (.goto (-65), 3) := by decide +kernel
theorem de_M_victim_73 : decode bc_M_victim 73 = .ok (.iload_n 3, 1) := by decide +kernel
theorem de_M_victim_74 : decode bc_M_victim 74 = .ok (.ireturn, 1) := by decide +kernel
theorem de_M_interrupt_0 : decode bc_M_interrupt 0 = .ok (.aload_n 0, 1) := by decide +kernel
theorem de_M_interrupt_1 : decode bc_M_interrupt 1 = .ok (.iload_n 1, 1) := by decide +kernel
theorem de_M_interrupt_2 : decode bc_M_interrupt 2 = .ok (.invokevirtual 87, 3) := by decide +kernel
theorem de_M_interrupt_5 : decode bc_M_interrupt 5 = .ok (.ifCond .ne 23, 3) := by decide +kernel
theorem de_M_interrupt_8 : decode bc_M_interrupt 8 = .ok (.aload_n 0, 1) := by decide +kernel
theorem de_M_interrupt_9 : decode bc_M_interrupt 9 = .ok (.getfield 25, 3) := by decide +kernel
theorem de_M_interrupt_12 : decode bc_M_interrupt 12 = .ok (.iload_n 1, 1) := by decide +kernel
theorem de_M_interrupt_13 : decode bc_M_interrupt 13 = .ok (.iaload, 1) := by decide +kernel
theorem de_M_interrupt_14 : decode bc_M_interrupt 14 = .ok (.iconst 2, 1) := by decide +kernel
theorem de_M_interrupt_15 : decode bc_M_interrupt 15 = .ok (.if_icmp .lt 13, 3) := by decide +kernel
theorem de_M_interrupt_18 : decode bc_M_interrupt 18 = .ok (.aload_n 0, 1) := by decide +kernel
theorem de_M_interrupt_19 : decode bc_M_interrupt 19 = .ok (.getfield 25, 3) := by decide +kernel
theorem de_M_interrupt_22 : decode bc_M_interrupt 22 = .ok (.iload_n 1, 1) := by decide +kernel
theorem de_M_interrupt_23 : decode bc_M_interrupt 23 = .ok (.iaload, 1) := by decide +kernel
theorem de_M_interrupt_24 : decode bc_M_interrupt 24 = .ok (.iconst 5, 1) := by decide +kernel
theorem de_M_interrupt_25 : decode bc_M_interrupt 25 = .ok (.if_icmp .le 5, 3) := by decide +kernel
theorem de_M_interrupt_28 : decode bc_M_interrupt 28 = .ok (.iconst 0, 1) := by decide +kernel
theorem de_M_interrupt_29 : decode bc_M_interrupt 29 = .ok (.ireturn, 1) := by decide +kernel
theorem de_M_interrupt_30 : decode bc_M_interrupt 30 = .ok (.aload_n 0, 1) := by decide +kernel
theorem de_M_interrupt_31 : decode bc_M_interrupt 31 = .ok (.getfield 25, 3) := by decide +kernel
theorem de_M_interrupt_34 : decode bc_M_interrupt 34 = .ok (.iload_n 1, 1) := by decide +kernel
theorem de_M_interrupt_35 : decode bc_M_interrupt 35 = .ok (.iaload, 1) := by decide +kernel
theorem de_M_interrupt_36 : decode bc_M_interrupt 36 = .ok (.iconst 4, 1) := by decide +kernel
theorem de_M_interrupt_37 : decode bc_M_interrupt 37 = .ok (.if_icmp .ne 16, 3) := by decide +kernel
theorem de_M_interrupt_40 : decode bc_M_interrupt 40 = .ok (.aload_n 0, 1) := by decide +kernel
theorem de_M_interrupt_41 : decode bc_M_interrupt 41 = .ok (.getfield 44, 3) := by decide +kernel
theorem de_M_interrupt_44 : decode bc_M_interrupt 44 = .ok (.aload_n 0, 1) := by decide +kernel
theorem de_M_interrupt_45 : decode bc_M_interrupt 45 = .ok (.iload_n 1, 1) := by decide +kernel
theorem de_M_interrupt_46 : decode bc_M_interrupt 46 = .ok (.invokevirtual 109, 3) := by decide +kernel
theorem de_M_interrupt_49 : decode bc_M_interrupt 49 = .ok (.iaload, 1) := by decide +kernel
theorem de_M_interrupt_50 : decode bc_M_interrupt 50 = .ok (.goto 4, 3) := by decide +kernel
theorem de_M_interrupt_53 : decode bc_M_interrupt 53 = .ok (.iconst (-1), 1) := by decide +kernel
theorem de_M_interrupt_54 : decode bc_M_interrupt 54 = .ok (.istore_n 2, 1) := by decide +kernel
theorem de_M_interrupt_55 : decode bc_M_interrupt 55 = .ok (.aload_n 0, 1) := by decide +kernel
theorem de_M_interrupt_56 : decode bc_M_interrupt 56 = .ok (.getfield 22, 3) := by decide +kernel
theorem de_M_interrupt_59 : decode bc_M_interrupt 59 = .ok (.iload_n 1, 1) := by decide +kernel
theorem de_M_interrupt_60 : decode bc_M_interrupt 60 = .ok (.aload_n 0, 1) := by decide +kernel
theorem de_M_interrupt_61 : decode bc_M_interrupt 61 = .ok (.getfield 16, 3) := by decide +kernel
theorem de_M_interrupt_64 : decode bc_M_interrupt 64 = .ok (.iload_n 1, 1) := by decide +kernel
theorem de_M_interrupt_65 : decode bc_M_interrupt 65 = .ok (.iaload, 1) := by decide +kernel
theorem de_M_interrupt_66 : decode bc_M_interrupt 66 = .ok (.iastore, 1) := by decide +kernel
theorem de_M_interrupt_67 : decode bc_M_interrupt 67 = .ok (.aload_n 0, 1) := by decide +kernel
