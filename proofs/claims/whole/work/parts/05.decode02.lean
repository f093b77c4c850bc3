theorem de_K_moveClock_28 : decode bc_K_moveClock 28 = .ok (.aload_n 0, 1) := by decide +kernel
theorem de_K_moveClock_29 : decode bc_K_moveClock 29 = .ok (.getfield 49, 3) := by decide +kernel
theorem de_K_moveClock_32 : decode bc_K_moveClock 32 = .ok (.lsub, 1) := by decide +kernel
theorem de_K_moveClock_33 : decode bc_K_moveClock 33 = .ok (.lmul, 1) := by decide +kernel
theorem de_K_moveClock_34 : decode bc_K_moveClock 34 = .ok (.ladd, 1) := by decide +kernel
theorem de_K_moveClock_35 : decode bc_K_moveClock 35 = .ok (.putfield 188, 3) := by decide +kernel
theorem de_K_moveClock_38 : decode bc_K_moveClock 38 = .ok (.iinc 3 1, 3) := by decide +kernel
theorem de_K_moveClock_41 : decode bc_K_moveClock 41 = .ok (.goto (-39), 3) := by decide +kernel
theorem de_K_moveClock_44 : decode bc_K_moveClock 44 = .ok (.aload_n 0, 1) := by decide +kernel
theorem de_K_moveClock_45 : decode bc_K_moveClock 45 = .ok (.lload_n 1, 1) := by decide +kernel
theorem de_K_moveClock_46 : decode bc_K_moveClock 46 = .ok (.putfield 49, 3) := by decide +kernel
theorem de_K_moveClock_49 : decode bc_K_moveClock 49 = .ok (.return_, 1) := by decide +kernel
theorem de_C_add_0 : decode bc_C_add 0 = .ok (.aload_n 0, 1) := by decide +kernel
theorem de_C_add_1 : decode bc_C_add 1 = .ok (.aload_n 0, 1) := by decide +kernel
theorem de_C_add_2 : decode bc_C_add 2 = .ok (.getfield 15, 3) := by decide +kernel
theorem de_C_add_5 : decode bc_C_add 5 = .ok (.iconst 1, 1) := by decide +kernel
theorem de_C_add_6 : decode bc_C_add 6 = .ok (.iadd, 1) := by decide +kernel
theorem de_C_add_7 : decode bc_C_add 7 = .ok (.bipush 64, 2) := by decide +kernel
theorem de_C_add_9 : decode bc_C_add 9 = .ok (.irem, 1) := by decide +kernel
theorem de_C_add_10 : decode bc_C_add 10 = .ok (.putfield 15, 3) := by decide +kernel
theorem de_C_add_13 : decode bc_C_add 13 = .ok (.aload_n 0, 1) := by decide +kernel
theorem de_C_add_14 : decode bc_C_add 14 = .ok (.getfield 9, 3) := by decide +kernel
theorem de_C_add_17 : decode bc_C_add 17 = .ok (.aload_n 0, 1) := by decide +kernel
theorem de_C_add_18 : decode bc_C_add 18 = .ok (.getfield 15, 3) := by decide +kernel
theorem de_C_add_21 : decode bc_C_add 21 = .ok (.iload_n 1, 1) := by decide +kernel
theorem de_C_add_22 : decode bc_C_add 22 = .ok (.iastore, 1) := by decide +kernel
theorem de_C_add_23 : decode bc_C_add 23 = .ok (.aload_n 0, 1) := by decide +kernel
theorem de_C_add_24 : decode bc_C_add 24 = .ok (.aload_n 0, 1) := by decide +kernel
theorem de_C_add_25 : decode bc_C_add 25 = .ok (.getfield 19, 3) := by decide +kernel
theorem de_C_add_28 : decode bc_C_add 28 = .ok (.iconst 1, 1) := by decide +kernel
theorem de_C_add_29 : decode bc_C_add 29 = .ok (.iadd, 1) := by decide +kernel
theorem de_C_add_30 : decode bc_C_add 30 = .ok (.bipush 64, 2) := by decide +kernel
theorem de_C_add_32 : decode bc_C_add 32 = .ok (.invokestatic 22, 3) := by decide +kernel
theorem de_C_add_35 : decode bc_C_add 35 = .ok (.putfield 19, 3) := by decide +kernel
theorem de_C_add_38 : decode bc_C_add 38 = .ok (.return_, 1) := by decide +kernel
theorem de_K_begin_0 : decode bc_K_begin 0 = .ok (.aload_n 1, 1) := by decide +kernel
theorem de_K_begin_1 : decode bc_K_begin 1 = .ok (.iconst 0, 1) := by decide +kernel
theorem de_K_begin_2 : decode bc_K_begin 2 = .ok (.putfield 198, 3) := by decide +kernel
theorem de_K_begin_5 : decode bc_K_begin 5 = .ok (.aload_n 0, 1) := by decide +kernel
theorem de_K_begin_6 : decode bc_K_begin 6 = .ok (.aload_n 1, 1) := by decide +kernel
theorem de_K_begin_7 : decode bc_K_begin 7 = .ok (.getfield 158, 3) := by decide +kernel
theorem de_K_begin_10 : decode bc_K_begin 10 = .ok (.invokevirtual 170, 3) := by decide +kernel
theorem de_K_begin_13 : decode bc_K_begin 13 = .ok (.aload_n 1, 1) := by decide +kernel
theorem de_K_begin_14 : decode bc_K_begin 14 = .ok (.iconst 1, 1) := by decide +kernel
theorem de_K_begin_15 : decode bc_K_begin 15 = .ok (.putfield 84, 3) := by decide +kernel
theorem de_K_begin_18 : decode bc_K_begin 18 = .ok (.aload_n 0, 1) := by decide +kernel
theorem de_K_begin_19 : decode bc_K_begin 19 = .ok (.getfield 37, 3) := by decide +kernel
theorem de_K_begin_22 : decode bc_K_begin 22 = .ok (.aload_n 1, 1) := by decide +kernel
theorem de_K_begin_23 : decode bc_K_begin 23 = .ok (.getfield 74, 3) := by decide +kernel
theorem de_K_begin_26 : decode bc_K_begin 26 = .ok (.bipush 16, 2) := by decide +kernel
theorem de_K_begin_28 : decode bc_K_begin 28 = .ok (.aload_n 1, 1) := by decide +kernel
theorem de_K_begin_29 : decode bc_K_begin 29 = .ok (.getfield 134, 3) := by decide +kernel
theorem de_K_begin_32 : decode bc_K_begin 32 = .ok (.imul, 1) := by decide +kernel
theorem de_K_begin_33 : decode bc_K_begin 33 = .ok (.iadd, 1) := by decide +kernel
theorem de_K_begin_34 : decode bc_K_begin 34 = .ok (.invokevirtual 208, 3) := by decide +kernel
theorem de_K_begin_37 : decode bc_K_begin 37 = .ok (.return_, 1) := by decide +kernel
theorem de_K_countBefore_0 : decode bc_K_countBefore 0 = .ok (.aload_n 0, 1) := by decide +kernel
theorem de_K_countBefore_1 : decode bc_K_countBefore 1 = .ok (.getfield 17, 3) := by decide +kernel
theorem de_K_countBefore_4 : decode bc_K_countBefore 4 = .ok (.iload_n 1, 1) := by decide +kernel
theorem de_K_countBefore_5 : decode bc_K_countBefore 5 = .ok (.aaload, 1) := by decide +kernel
theorem de_K_countBefore_6 : decode bc_K_countBefore 6 = .ok (.getfield 185, 3) := by decide +kernel
theorem de_K_countBefore_9 : decode bc_K_countBefore 9 = .ok (.astore_n 3, 1) := by decide +kernel
theorem de_K_countBefore_10 : decode bc_K_countBefore 10 = .ok (.iconst 0, 1) := by decide +kernel
theorem de_K_countBefore_11 : decode bc_K_countBefore 11 = .ok (.istore 4, 2) := by decide +kernel
theorem de_K_countBefore_13 : decode bc_K_countBefore 13 = .ok (.iload 4, 2) := by decide +kernel
theorem de_K_countBefore_15 : decode bc_K_countBefore 15 = .ok (.aload_n 3, 1) := by decide +kernel
theorem de_K_countBefore_16 : decode bc_K_countBefore 16 = .ok (.getfield 182, 3) := by decide +kernel
theorem de_K_countBefore_19 : decode bc_K_countBefore 19 = .ok (.if_icmp .ge 28, 3) := by decide +kernel
theorem de_K_countBefore_22 : decode bc_K_countBefore 22 = .ok (.aload_n 0, 1) := by decide +kernel
theorem de_K_countBefore_23 : decode bc_K_countBefore 23 = .ok (.getfield 11, 3) := by decide +kernel
theorem de_K_countBefore_26 : decode bc_K_countBefore 26 = .ok (.aload_n 3, 1) := by decide +kernel
theorem de_K_countBefore_27 : decode bc_K_countBefore 27 = .ok (.getfield 251, 3) := by decide +kernel
theorem de_K_countBefore_30 : decode bc_K_countBefore 30 = .ok (.iload 4, 2) := by decide +kernel
theorem de_K_countBefore_32 : decode bc_K_countBefore 32 = .ok (.iaload, 1) := by decide +kernel
theorem de_K_countBefore_33 : decode bc_K_countBefore 33 = .ok (.aaload, 1) := by decide +kernel
theorem de_K_countBefore_34 : decode bc_K_countBefore 34 = .ok (.getfield 65, 3) := by decide +kernel
theorem de_K_countBefore_37 : decode bc_K_countBefore 37 = .ok (.iload_n 2, 1) := by decide +kernel
theorem de_K_countBefore_38 : decode bc_K_countBefore 38 = .ok (.if_icmp .gt 9, 3) := by decide +kernel
theorem de_K_countBefore_41 : decode bc_K_countBefore 41 = .ok (.iinc 4 1, 3) := by decide +kernel
theorem de_K_countBefore_44 : decode bc_K_countBefore 44 = .ok (.goto (-31), 3) := by decide +kernel
theorem de_K_countBefore_47 : decode bc_K_countBefore 47 = .ok (.iload 4, 2) := by decide +kernel
theorem de_K_countBefore_49 : decode bc_K_countBefore 49 = .ok (.ireturn, 1) := by decide +kernel
theorem de_K_seizeFree_0 : decode bc_K_seizeFree 0 = .ok (.aload_n 1, 1) := by decide +kernel
theorem de_K_seizeFree_1 : decode bc_K_seizeFree 1 = .ok (.invokevirtual 220, 3) := by decide +kernel
theorem de_K_seizeFree_4 : decode bc_K_seizeFree 4 = .ok (.istore_n 2, 1) := by decide +kernel
theorem de_K_seizeFree_5 : decode bc_K_seizeFree 5 = .ok (.aload_n 1, 1) := by decide +kernel
theorem de_K_seizeFree_6 : decode bc_K_seizeFree 6 = .ok (.invokevirtual 232, 3) := by decide +kernel
theorem de_K_seizeFree_9 : decode bc_K_seizeFree 9 = .ok (.istore_n 3, 1) := by decide +kernel
theorem de_K_seizeFree_10 : decode bc_K_seizeFree 10 = .ok (.aload_n 0, 1) := by decide +kernel
theorem de_K_seizeFree_11 : decode bc_K_seizeFree 11 = .ok (.iload_n 2, 1) := by decide +kernel
theorem de_K_seizeFree_12 : decode bc_K_seizeFree 12 = .ok (.aload_n 1, 1) := by decide +kernel
theorem de_K_seizeFree_13 : decode bc_K_seizeFree 13 = .ok (.getfield 65, 3) := by decide +kernel
theorem de_K_seizeFree_16 : decode bc_K_seizeFree 16 = .ok (.invokevirtual 254, 3) := by decide +kernel
theorem de_K_seizeFree_19 : decode bc_K_seizeFree 19 = .ok (.ifCond .gt 16, 3) := by decide +kernel
theorem de_K_seizeFree_22 : decode bc_K_seizeFree 22 = .ok (.iload_n 3, 1) := by decide +kernel
theorem de_K_seizeFree_23 : decode bc_K_seizeFree 23 = .ok (.aload_n 0, 1) := by decide +kernel
theorem de_K_seizeFree_24 : decode bc_K_seizeFree 24 = .ok (.getfield 17, 3) := by decide +kernel
theorem de_K_seizeFree_27 : decode bc_K_seizeFree 27 = .ok (.iload_n 2, 1) := by decide +kernel
theorem de_K_seizeFree_28 : decode bc_K_seizeFree 28 = .ok (.aaload, 1) := by decide +kernel
theorem de_K_seizeFree_29 : decode bc_K_seizeFree 29 = .ok (.invokevirtual 179, 3) := by decide +kernel
theorem de_K_seizeFree_32 : decode bc_K_seizeFree 32 = .ok (.if_icmp .le 5, 3) := by decide +kernel
theorem de_K_seizeFree_35 : decode bc_K_seizeFree 35 = .ok (.iconst 0, 1) := by decide +kernel
theorem de_K_seizeFree_36 : decode bc_K_seizeFree 36 = .ok (.ireturn, 1) := by decide +kernel
theorem de_K_seizeFree_37 : decode bc_K_seizeFree 37 = .ok (.aload_n 0, 1) := by decide +kernel
theorem de_K_seizeFree_38 : decode bc_K_seizeFree 38 = .ok (.aload_n 1, 1) := by decide +kernel
theorem de_K_seizeFree_39 : decode bc_K_seizeFree 39 = .ok (.iload_n 2, 1) := by decide +kernel
theorem de_K_seizeFree_40 : decode bc_K_seizeFree 40 = .ok (.iload_n 3, 1) := by decide +kernel
theorem de_K_seizeFree_41 : decode bc_K_seizeFree 41 = .ok (.invokevirtual 258, 3) := by decide +kernel
theorem de_K_seizeFree_44 : decode bc_K_seizeFree 44 = .ok (.iconst 1, 1) := by decide +kernel
theorem de_K_seizeFree_45 : decode bc_K_seizeFree 45 = .ok (.ireturn, 1) := by decide +kernel
theorem de_K_withinReach_0 : decode bc_K_withinReach 0 = .ok (.aload_n 0, 1) := by decide +kernel
theorem de_K_withinReach_1 : decode bc_K_withinReach 1 = .ok (.getfield 17, 3) := by decide +kernel
theorem de_K_withinReach_4 : decode bc_K_withinReach 4 = .ok (.iload_n 2, 1) := by decide +kernel
theorem de_K_withinReach_5 : decode bc_K_withinReach 5 = .ok (.aaload, 1) := by decide +kernel
theorem de_K_withinReach_6 : decode bc_K_withinReach 6 = .ok (.invokevirtual 179, 3) := by decide +kernel
theorem de_K_withinReach_9 : decode bc_K_withinReach 9 = .ok (.istore_n 3, 1) := by decide +kernel
theorem de_K_withinReach_10 : decode bc_K_withinReach 10 = .ok (.iconst 0, 1) := by decide +kernel
theorem de_K_withinReach_11 : decode bc_K_withinReach 11 = .ok (.istore 4, 2) := by decide +kernel
theorem de_K_withinReach_13 : decode bc_K_withinReach 13 = .ok (.iload 4, 2) := by decide +kernel
theorem de_K_withinReach_15 : decode bc_K_withinReach 15 = .ok (.aload_n 0, 1) := by decide +kernel
theorem de_K_withinReach_16 : decode bc_K_withinReach 16 = .ok (.getfield 45, 3) := by decide +kernel
theorem de_K_withinReach_19 : decode bc_K_withinReach 19 = .ok (.if_icmp .ge 41, 3) := by decide +kernel
theorem de_K_withinReach_22 : decode bc_K_withinReach 22 = .ok (.aload_n 0, 1) := by decide +kernel
theorem de_K_withinReach_23 : decode bc_K_withinReach 23 = .ok (.getfield 11, 3) := by decide +kernel
theorem de_K_withinReach_26 : decode bc_K_withinReach 26 = .ok (.iload 4, 2) := by decide +kernel
theorem de_K_withinReach_28 : decode bc_K_withinReach 28 = .ok (.aaload, 1) := by decide +kernel
theorem de_K_withinReach_29 : decode bc_K_withinReach 29 = .ok (.getfield 65, 3) := by decide +kernel
theorem de_K_withinReach_32 : decode bc_K_withinReach 32 = .ok (.aload_n 1, 1) := by decide +kernel
theorem de_K_withinReach_33 : decode bc_K_withinReach 33 = .ok (.getfield 65, 3) := by decide +kernel
theorem de_K_withinReach_36 : decode bc_K_withinReach 36 = .ok (.if_icmp .le 18, 3) := by decide +kernel
theorem de_K_withinReach_39 : decode bc_K_withinReach 39 = .ok (.iload_n 3, 1) := by decide +kernel
theorem de_K_withinReach_40 : decode bc_K_withinReach 40 = .ok (.aload_n 0, 1) := by decide +kernel
theorem de_K_withinReach_41 : decode bc_K_withinReach 41 = .ok (.getfield 11, 3) := by decide +kernel
theorem de_K_withinReach_44 : decode bc_K_withinReach 44 = .ok (.iload 4, 2) := by decide +kernel
theorem de_K_withinReach_46 : decode bc_K_withinReach 46 = .ok (.aaload, 1) := by decide +kernel
theorem de_K_withinReach_47 : decode bc_K_withinReach 47 = .ok (.getfield 176, 3) := by decide +kernel
theorem de_K_withinReach_50 : decode bc_K_withinReach 50 = .ok (.iload_n 2, 1) := by decide +kernel
theorem de_K_withinReach_51 : decode bc_K_withinReach 51 = .ok (.iaload, 1) := by decide +kernel
theorem de_K_withinReach_52 : decode bc_K_withinReach 52 = .ok (.iadd, 1) := by decide +kernel
theorem de_K_withinReach_53 : decode bc_K_withinReach 53 = .ok (.istore_n 3, 1) := by decide +kernel
theorem de_K_withinReach_54 : decode bc_K_withinReach 54 = .ok (.iinc 4 1, 3) := by decide +kernel
theorem de_K_withinReach_57 : decode bc_K_withinReach 57 = .ok (.goto (-44), 3) := by decide +kernel
theorem de_K_withinReach_60 : decode bc_K_withinReach 60 = .ok (.iload_n 3, 1) := by decide +kernel
theorem de_K_withinReach_61 : decode bc_K_withinReach 61 = .ok (.ireturn, 1) := by decide +kernel
theorem de_K_nextLoser_0 : decode bc_K_nextLoser 0 = .ok (.iconst (-1), 1) := by decide +kernel
theorem de_K_nextLoser_1 : decode bc_K_nextLoser 1 = .ok (.istore_n 3, 1) := by decide +kernel
theorem de_K_nextLoser_2 : decode bc_K_nextLoser 2 = .ok (.aload_n 1, 1) := by decide +kernel
theorem de_K_nextLoser_3 : decode bc_K_nextLoser 3 = .ok (.getfield 65, 3) := by decide +kernel
theorem de_K_nextLoser_6 : decode bc_K_nextLoser 6 = .ok (.istore 4, 2) := by decide +kernel
theorem de_K_nextLoser_8 : decode bc_K_nextLoser 8 = .ok (.aload_n 0, 1) := by decide +kernel
theorem de_K_nextLoser_9 : decode bc_K_nextLoser 9 = .ok (.getfield 45, 3) := by decide +kernel
theorem de_K_nextLoser_12 : decode bc_K_nextLoser 12 = .ok (.iconst 1, 1) := by decide +kernel
theorem de_K_nextLoser_13 : decode bc_K_nextLoser 13 = .ok (.isub, 1) := by decide +kernel
theorem de_K_nextLoser_14 : decode bc_K_nextLoser 14 = .ok (.istore 5, 2) := by decide +kernel
theorem de_K_nextLoser_16 : decode bc_K_nextLoser 16 = .ok (.iload 5, 2) := by decide +kernel
theorem de_K_nextLoser_18 : decode bc_K_nextLoser 18 = .ok (.ifCond .lt 54, 3) := by decide +kernel
theorem de_K_nextLoser_21 : decode bc_K_nextLoser 21 = .ok (.aload_n 0, 1) := by decide +kernel
theorem de_K_nextLoser_22 : decode bc_K_nextLoser 22 = .ok (.getfield 11, 3) := by decide +kernel
theorem de_K_nextLoser_25 : decode bc_K_nextLoser 25 = .ok (.iload 5, 2) := by decide +kernel
theorem de_K_nextLoser_27 : decode bc_K_nextLoser 27 = .ok (.aaload, 1) := by decide +kernel
theorem de_K_nextLoser_28 : decode bc_K_nextLoser 28 = .ok (.getfield 176, 3) := by decide +kernel
theorem de_K_nextLoser_31 : decode bc_K_nextLoser 31 = .ok (.iload_n 2, 1) := by decide +kernel
theorem de_K_nextLoser_32 : decode bc_K_nextLoser 32 = .ok (.iaload, 1) := by decide +kernel
theorem de_K_nextLoser_33 : decode bc_K_nextLoser 33 = .ok (.ifCond .le 33, 3) := by decide +kernel
theorem de_K_nextLoser_36 : decode bc_K_nextLoser 36 = .ok (.aload_n 0, 1) := by decide +kernel
theorem de_K_nextLoser_37 : decode bc_K_nextLoser 37 = .ok (.getfield 11, 3) := by decide +kernel
theorem de_K_nextLoser_40 : decode bc_K_nextLoser 40 = .ok (.iload 5, 2) := by decide +kernel
theorem de_K_nextLoser_42 : decode bc_K_nextLoser 42 = .ok (.aaload, 1) := by decide +kernel
theorem de_K_nextLoser_43 : decode bc_K_nextLoser 43 = .ok (.getfield 65, 3) := by decide +kernel
theorem de_K_nextLoser_46 : decode bc_K_nextLoser 46 = .ok (.iload 4, 2) := by decide +kernel
theorem de_K_nextLoser_48 : decode bc_K_nextLoser 48 = .ok (.if_icmp .le 18, 3) := by decide +kernel
theorem de_K_nextLoser_51 : decode bc_K_nextLoser 51 = .ok (.iload 5, 2) := by decide +kernel
theorem de_K_nextLoser_53 : decode bc_K_nextLoser 53 = .ok (.istore_n 3, 1) := by decide +kernel
theorem de_K_nextLoser_54 : decode bc_K_nextLoser 54 = .ok (.aload_n 0, 1) := by decide +kernel
theorem de_K_nextLoser_55 : decode bc_K_nextLoser 55 = .ok (.getfield 11, 3) := by decide +kernel
theorem de_K_nextLoser_58 : decode bc_K_nextLoser 58 = .ok (.iload 5, 2) := by decide +kernel
theorem de_K_nextLoser_60 : decode bc_K_nextLoser 60 = .ok (.aaload, 1) := by decide +kernel
theorem de_K_nextLoser_61 : decode bc_K_nextLoser 61 = .ok (.getfield 65, 3) := by decide +kernel
theorem de_K_nextLoser_64 : decode bc_K_nextLoser 64 = .ok (.istore 4, 2) := by decide +kernel
theorem de_K_nextLoser_66 : decode bc_K_nextLoser 66 = .ok (.iinc 5 (-1), 3) := by decide +kernel
theorem de_K_nextLoser_69 : decode bc_K_nextLoser 69 = .ok (.goto (-53), 3) := by decide +kernel
theorem de_K_nextLoser_72 : decode bc_K_nextLoser 72 = .ok (.iload_n 3, 1) := by decide +kernel
theorem de_K_nextLoser_73 : decode bc_K_nextLoser 73 = .ok (.ireturn, 1) := by decide +kernel
theorem de_K_takeFromLosers_0 : decode bc_K_takeFromLosers 0 = .ok (.iconst 0, 1) := by decide +kernel
theorem de_K_takeFromLosers_1 : decode bc_K_takeFromLosers 1 = .ok (.istore 4, 2) := by decide +kernel
theorem de_K_takeFromLosers_3 : decode bc_K_takeFromLosers 3 = .ok (.iload 4, 2) := by decide +kernel
theorem de_K_takeFromLosers_5 : decode bc_K_takeFromLosers 5 = .ok (.bipush 12, 2) := by decide +kernel
theorem de_K_takeFromLosers_7 : decode bc_K_takeFromLosers 7 = .ok (.if_icmp .ge 72, 3) := by decide +kernel
theorem de_K_takeFromLosers_10 : decode bc_K_takeFromLosers 10 = .ok (.aload_n 0, 1) := by decide +kernel
theorem de_K_takeFromLosers_11 : decode bc_K_takeFromLosers 11 = .ok (.getfield 17, 3) := by decide +kernel
theorem de_K_takeFromLosers_14 : decode bc_K_takeFromLosers 14 = .ok (.iload_n 2, 1) := by decide +kernel
theorem de_K_takeFromLosers_15 : decode bc_K_takeFromLosers 15 = .ok (.aaload, 1) := by decide +kernel
theorem de_K_takeFromLosers_16 : decode bc_K_takeFromLosers 16 = .ok (.invokevirtual 179, 3) := by decide +kernel
theorem de_K_takeFromLosers_19 : decode bc_K_takeFromLosers 19 = .ok (.iload_n 3, 1) := by decide +kernel
theorem de_K_takeFromLosers_20 : decode bc_K_takeFromLosers 20 = .ok (.if_icmp .ge 59, 3) := by decide +kernel
theorem de_K_takeFromLosers_23 : decode bc_K_takeFromLosers 23 = .ok (.aload_n 0, 1) := by decide +kernel
theorem de_K_takeFromLosers_24 : decode bc_K_takeFromLosers 24 = .ok (.aload_n 1, 1) := by decide +kernel
theorem de_K_takeFromLosers_25 : decode bc_K_takeFromLosers 25 = .ok (.iload_n 2, 1) := by decide +kernel
theorem de_K_takeFromLosers_26 : decode bc_K_takeFromLosers 26 = .ok (.invokevirtual 276, 3) := by decide +kernel
theorem de_K_takeFromLosers_29 : decode bc_K_takeFromLosers 29 = .ok (.istore 5, 2) := by decide +kernel
theorem de_K_takeFromLosers_31 : decode bc_K_takeFromLosers 31 = .ok (.iload 5, 2) := by decide +kernel
theorem de_K_takeFromLosers_33 : decode bc_K_takeFromLosers 33 = .ok (.iconst (-1), 1) := by decide +kernel
theorem de_K_takeFromLosers_34 : decode bc_K_takeFromLosers 34 = .ok (.if_icmp .ne 6, 3) := by decide +kernel
theorem de_K_takeFromLosers_37 : decode bc_K_takeFromLosers 37 = .ok (.goto 42, 3) := by decide +kernel
theorem de_K_takeFromLosers_40 : decode bc_K_takeFromLosers 40 = .ok (.aload_n 0, 1) := by decide +kernel
theorem de_K_takeFromLosers_41 : decode bc_K_takeFromLosers 41 = .ok (.aload_n 0, 1) := by decide +kernel
theorem de_K_takeFromLosers_42 : decode bc_K_takeFromLosers 42 = .ok (.getfield 11, 3) := by decide +kernel
theorem de_K_takeFromLosers_45 : decode bc_K_takeFromLosers 45 = .ok (.iload 5, 2) := by decide +kernel
theorem de_K_takeFromLosers_47 : decode bc_K_takeFromLosers 47 = .ok (.aaload, 1) := by decide +kernel
theorem de_K_takeFromLosers_48 : decode bc_K_takeFromLosers 48 = .ok (.iload_n 2, 1) := by decide +kernel
theorem de_K_takeFromLosers_49 : decode bc_K_takeFromLosers 49 = .ok (.aload_n 0, 1) := by decide +kernel
theorem de_K_takeFromLosers_50 : decode bc_K_takeFromLosers 50 = .ok (.getfield 11, 3) := by decide +kernel
theorem de_K_takeFromLosers_53 : decode bc_K_takeFromLosers 53 = .ok (.iload 5, 2) := by decide +kernel
theorem de_K_takeFromLosers_55 : decode bc_K_takeFromLosers 55 = .ok (.aaload, 1) := by decide +kernel
theorem de_K_takeFromLosers_56 : decode bc_K_takeFromLosers 56 = .ok (.getfield 176, 3) := by decide +kernel
theorem de_K_takeFromLosers_59 : decode bc_K_takeFromLosers 59 = .ok (.iload_n 2, 1) := by decide +kernel
theorem de_K_takeFromLosers_60 : decode bc_K_takeFromLosers 60 = .ok (.iaload, 1) := by decide +kernel
theorem de_K_takeFromLosers_61 : decode bc_K_takeFromLosers 61 = .ok (.invokevirtual 279, 3) := by decide +kernel
theorem de_K_takeFromLosers_64 : decode bc_K_takeFromLosers 64 = .ok (.aload_n 0, 1) := by decide +kernel
theorem de_K_takeFromLosers_65 : decode bc_K_takeFromLosers 65 = .ok (.getfield 41, 3) := by decide +kernel
theorem de_K_takeFromLosers_68 : decode bc_K_takeFromLosers 68 = .ok (.iload 4, 2) := by decide +kernel
theorem de_K_takeFromLosers_70 : decode bc_K_takeFromLosers 70 = .ok (.iload 5, 2) := by decide +kernel
theorem de_K_takeFromLosers_72 : decode bc_K_takeFromLosers 72 = .ok (.iastore, 1) := by decide +kernel
theorem de_K_takeFromLosers_73 : decode bc_K_takeFromLosers 73 = .ok (.iinc 4 1, 3) := by decide +kernel
theorem de_K_takeFromLosers_76 : decode bc_K_takeFromLosers 76 = .ok (.goto (-73), 3) := by decide +kernel
theorem de_K_takeFromLosers_79 : decode bc_K_takeFromLosers 79 = .ok (.iload 4, 2) := by decide +kernel
theorem de_K_takeFromLosers_81 : decode bc_K_takeFromLosers 81 = .ok (.ireturn, 1) := by decide +kernel
theorem de_K_seizeByForce_0 : decode bc_K_seizeByForce 0 = .ok (.aload_n 1, 1) := by decide +kernel
theorem de_K_seizeByForce_1 : decode bc_K_seizeByForce 1 = .ok (.invokevirtual 220, 3) := by decide +kernel
theorem de_K_seizeByForce_4 : decode bc_K_seizeByForce 4 = .ok (.istore_n 2, 1) := by decide +kernel
theorem de_K_seizeByForce_5 : decode bc_K_seizeByForce 5 = .ok (.aload_n 1, 1) := by decide +kernel
theorem de_K_seizeByForce_6 : decode bc_K_seizeByForce 6 = .ok (.invokevirtual 232, 3) := by decide +kernel
theorem de_K_seizeByForce_9 : decode bc_K_seizeByForce 9 = .ok (.istore_n 3, 1) := by decide +kernel
theorem de_K_seizeByForce_10 : decode bc_K_seizeByForce 10 = .ok (.aload_n 0, 1) := by decide +kernel
theorem de_K_seizeByForce_11 : decode bc_K_seizeByForce 11 = .ok (.iload_n 2, 1) := by decide +kernel
theorem de_K_seizeByForce_12 : decode bc_K_seizeByForce 12 = .ok (.aload_n 1, 1) := by decide +kernel
theorem de_K_seizeByForce_13 : decode bc_K_seizeByForce 13 = .ok (.getfield 65, 3) := by decide +kernel
theorem de_K_seizeByForce_16 : decode bc_K_seizeByForce 16 = .ok (.invokevirtual 254, 3) := by decide +kernel
theorem de_K_seizeByForce_19 : decode bc_K_seizeByForce 19 = .ok (.ifCond .gt 25, 3) := by decide +kernel
theorem de_K_seizeByForce_22 : decode bc_K_seizeByForce 22 = .ok (.aload_n 0, 1) := by decide +kernel
theorem de_K_seizeByForce_23 : decode bc_K_seizeByForce 23 = .ok (.getfield 17, 3) := by decide +kernel
theorem de_K_seizeByForce_26 : decode bc_K_seizeByForce 26 = .ok (.iload_n 2, 1) := by decide +kernel
theorem de_K_seizeByForce_27 : decode bc_K_seizeByForce 27 = .ok (.aaload, 1) := by decide +kernel
theorem de_K_seizeByForce_28 : decode bc_K_seizeByForce 28 = .ok (.getfield 103, 3) := by decide +kernel
theorem de_K_seizeByForce_31 : decode bc_K_seizeByForce 31 = .ok (.ifCond .eq 13, 3) := by decide +kernel
theorem de_K_seizeByForce_34 : decode bc_K_seizeByForce 34 = .ok (.aload_n 0, 1) := by decide +kernel
theorem de_K_seizeByForce_35 : decode bc_K_seizeByForce 35 = .ok (.aload_n 1, 1) := by decide +kernel
theorem de_K_seizeByForce_36 : decode bc_K_seizeByForce 36 = .ok (.iload_n 2, 1) := by decide +kernel
theorem de_K_seizeByForce_37 : decode bc_K_seizeByForce 37 = .ok (.invokevirtual 261, 3) := by decide +kernel
theorem de_K_seizeByForce_40 : decode bc_K_seizeByForce 40 = .ok (.iload_n 3, 1) := by decide +kernel
theorem de_K_seizeByForce_41 : decode bc_K_seizeByForce 41 = .ok (.if_icmp .ge 5, 3) := by decide +kernel
theorem de_K_seizeByForce_44 : decode bc_K_seizeByForce 44 = .ok (.iconst 0, 1) := by decide +kernel
theorem de_K_seizeByForce_45 : decode bc_K_seizeByForce 45 = .ok (.ireturn, 1) := by decide +kernel
theorem de_K_seizeByForce_46 : decode bc_K_seizeByForce 46 = .ok (.aload_n 0, 1) := by decide +kernel
theorem de_K_seizeByForce_47 : decode bc_K_seizeByForce 47 = .ok (.aload_n 1, 1) := by decide +kernel
theorem de_K_seizeByForce_48 : decode bc_K_seizeByForce 48 = .ok (.iload_n 2, 1) := by decide +kernel
theorem de_K_seizeByForce_49 : decode bc_K_seizeByForce 49 = .ok (.iload_n 3, 1) := by decide +kernel
theorem de_K_seizeByForce_50 : decode bc_K_seizeByForce 50 = .ok (.invokevirtual 265, 3) := by decide +kernel
theorem de_K_seizeByForce_53 : decode bc_K_seizeByForce 53 = .ok (.istore 4, 2) := by decide +kernel
theorem de_K_seizeByForce_55 : decode bc_K_seizeByForce 55 = .ok (.aload_n 0, 1) := by decide +kernel
theorem de_K_seizeByForce_56 : decode bc_K_seizeByForce 56 = .ok (.aload_n 1, 1) := by decide +kernel
theorem de_K_seizeByForce_57 : decode bc_K_seizeByForce 57 = .ok (.iload_n 2, 1) := by decide +kernel
theorem de_K_seizeByForce_58 : decode bc_K_seizeByForce 58 = .ok (.iload_n 3, 1) := by decide +kernel
theorem de_K_seizeByForce_59 : decode bc_K_seizeByForce 59 = .ok (.invokevirtual 258, 3) := by decide +kernel
theorem de_K_seizeByForce_62 : decode bc_K_seizeByForce 62 = .ok (.iconst 0, 1) := by decide +kernel
theorem de_K_seizeByForce_63 : decode bc_K_seizeByForce 63 = .ok (.istore 5, 2) := by decide +kernel
theorem de_K_seizeByForce_65 : decode bc_K_seizeByForce 65 = .ok (.iload 5, 2) := by decide +kernel
theorem de_K_seizeByForce_67 : decode bc_K_seizeByForce 67 = .ok (.iload 4, 2) := by decide +kernel
theorem de_K_seizeByForce_69 : decode bc_K_seizeByForce 69 = .ok (.if_icmp .ge 21, 3) := by decide +kernel
theorem de_K_seizeByForce_72 : decode bc_K_seizeByForce 72 = .ok (.aload_n 0, 1) := by decide +kernel
theorem de_K_seizeByForce_73 : decode bc_K_seizeByForce 73 = .ok (.aload_n 0, 1) := by decide +kernel
theorem de_K_seizeByForce_74 : decode bc_K_seizeByForce 74 = .ok (.getfield 41, 3) := by decide +kernel
theorem de_K_seizeByForce_77 : decode bc_K_seizeByForce 77 = .ok (.iload 5, 2) := by decide +kernel
theorem de_K_seizeByForce_79 : decode bc_K_seizeByForce 79 = .ok (.iaload, 1) := by decide +kernel
theorem de_K_seizeByForce_80 : decode bc_K_seizeByForce 80 = .ok (.invokevirtual 245, 3) := by decide +kernel
theorem de_K_seizeByForce_83 : decode bc_K_seizeByForce 83 = .ok (.pop, 1) := by decide +kernel
theorem de_K_seizeByForce_84 : decode bc_K_seizeByForce 84 = .ok (.iinc 5 1, 3) := by decide +kernel
theorem de_K_seizeByForce_87 : decode bc_K_seizeByForce 87 = .ok (.goto (-22), 3) := by decide +kernel
theorem de_K_seizeByForce_90 : decode bc_K_seizeByForce 90 = .ok (.aload_n 0, 1) := by decide +kernel
theorem de_K_seizeByForce_91 : decode bc_K_seizeByForce 91 = .ok (.iload_n 2, 1) := by decide +kernel
theorem de_K_seizeByForce_92 : decode bc_K_seizeByForce 92 = .ok (.invokevirtual 107, 3) := by decide +kernel
theorem de_K_seizeByForce_95 : decode bc_K_seizeByForce 95 = .ok (.iconst 1, 1) := by decide +kernel
theorem de_K_seizeByForce_96 : decode bc_K_seizeByForce 96 = .ok (.ireturn, 1) := by decide +kernel
theorem de_L_insert_0 : decode bc_L_insert 0 = .ok (.aload_n 0, 1) := by decide +kernel
theorem de_L_insert_1 : decode bc_L_insert 1 = .ok (.getfield 15, 3) := by decide +kernel
theorem de_L_insert_4 : decode bc_L_insert 4 = .ok (.bipush 12, 2) := by decide +kernel
theorem de_L_insert_6 : decode bc_L_insert 6 = .ok (.if_icmp .lt 4, 3) := by decide +kernel
theorem de_L_insert_9 : decode bc_L_insert 9 = .ok (.return_, 1) := by decide +kernel
theorem de_L_insert_10 : decode bc_L_insert 10 = .ok (.aload_n 0, 1) := by decide +kernel
theorem de_L_insert_11 : decode bc_L_insert 11 = .ok (.getfield 15, 3) := by decide +kernel
theorem de_L_insert_14 : decode bc_L_insert 14 = .ok (.istore_n 3, 1) := by decide +kernel
theorem de_L_insert_15 : decode bc_L_insert 15 = .ok (.iload_n 3, 1) := by decide +kernel
theorem de_L_insert_16 : decode bc_L_insert 16 = .ok (.iload_n 1, 1) := by decide +kernel
theorem de_L_insert_17 : decode bc_L_insert 17 = .ok (.if_icmp .le 23, 3) := by decide +kernel
theorem de_L_insert_20 : decode bc_L_insert 20 = .ok (.aload_n 0, 1) := by decide +kernel
theorem de_L_insert_21 : decode bc_L_insert 21 = .ok (.getfield 9, 3) := by decide +kernel
theorem de_L_insert_24 : decode bc_L_insert 24 = .ok (.iload_n 3, 1) := by decide +kernel
theorem de_L_insert_25 : decode bc_L_insert 25 = .ok (.aload_n 0, 1) := by decide +kernel
theorem de_L_insert_26 : decode bc_L_insert 26 = .ok (.getfield 9, 3) := by decide +kernel
theorem de_L_insert_29 : decode bc_L_insert 29 = .ok (.iload_n 3, 1) := by decide +kernel
theorem de_L_insert_30 : decode bc_L_insert 30 = .ok (.iconst 1, 1) := by decide +kernel
theorem de_L_insert_31 : decode bc_L_insert 31 = .ok (.isub, 1) := by decide +kernel
theorem de_L_insert_32 : decode bc_L_insert 32 = .ok (.iaload, 1) := by decide +kernel
theorem de_L_insert_33 : decode bc_L_insert 33 = .ok (.iastore, 1) := by decide +kernel
theorem de_L_insert_34 : decode bc_L_insert 34 = .ok (.iinc 3 (-1), 3) := by decide +kernel
theorem de_L_insert_37 : decode bc_L_insert 37 = .ok (.goto (-22), 3) := by decide +kernel
theorem de_L_insert_40 : decode bc_L_insert 40 = .ok (.aload_n 0, 1) := by decide +kernel
theorem de_L_insert_41 : decode bc_L_insert 41 = .ok (.getfield 9, 3) := by decide +kernel
theorem de_L_insert_44 : decode bc_L_insert 44 = .ok (.iload_n 1, 1) := by decide +kernel
theorem de_L_insert_45 : decode bc_L_insert 45 = .ok (.iload_n 2, 1) := by decide +kernel
theorem de_L_insert_46 : decode bc_L_insert 46 = .ok (.iastore, 1) := by decide +kernel
theorem de_L_insert_47 : decode bc_L_insert 47 = .ok (.aload_n 0, 1) := by decide +kernel
theorem de_L_insert_48 : decode bc_L_insert 48 = .ok (.dup, 1) := by decide +kernel
theorem de_L_insert_49 : decode bc_L_insert 49 = .ok (.getfield 15, 3) := by decide +kernel
theorem de_L_insert_52 : decode bc_L_insert 52 = .ok (.iconst 1, 1) := by decide +kernel
theorem de_L_insert_53 : decode bc_L_insert 53 = .ok (.iadd, 1) := by decide +kernel
theorem de_L_insert_54 : decode bc_L_insert 54 = .ok (.putfield 15, 3) := by decide +kernel
theorem de_L_insert_57 : decode bc_L_insert 57 = .ok (.return_, 1) := by decide +kernel
theorem de_K_standInLine_0 : decode bc_K_standInLine 0 = .ok (.aload_n 1, 1) := by decide +kernel
theorem de_K_standInLine_1 : decode bc_K_standInLine 1 = .ok (.invokevirtual 220, 3) := by decide +kernel
theorem de_K_standInLine_4 : decode bc_K_standInLine 4 = .ok (.istore_n 2, 1) := by decide +kernel
theorem de_K_standInLine_5 : decode bc_K_standInLine 5 = .ok (.aload_n 0, 1) := by decide +kernel
theorem de_K_standInLine_6 : decode bc_K_standInLine 6 = .ok (.getfield 17, 3) := by decide +kernel
theorem de_K_standInLine_9 : decode bc_K_standInLine 9 = .ok (.iload_n 2, 1) := by decide +kernel
theorem de_K_standInLine_10 : decode bc_K_standInLine 10 = .ok (.aaload, 1) := by decide +kernel
theorem de_K_standInLine_11 : decode bc_K_standInLine 11 = .ok (.getfield 185, 3) := by decide +kernel
theorem de_K_standInLine_14 : decode bc_K_standInLine 14 = .ok (.aload_n 0, 1) := by decide +kernel
theorem de_K_standInLine_15 : decode bc_K_standInLine 15 = .ok (.iload_n 2, 1) := by decide +kernel
theorem de_K_standInLine_16 : decode bc_K_standInLine 16 = .ok (.aload_n 1, 1) := by decide +kernel
theorem de_K_standInLine_17 : decode bc_K_standInLine 17 = .ok (.getfield 65, 3) := by decide +kernel
theorem de_K_standInLine_20 : decode bc_K_standInLine 20 = .ok (.invokevirtual 254, 3) := by decide +kernel
theorem de_K_standInLine_23 : decode bc_K_standInLine 23 = .ok (.aload_n 1, 1) := by decide +kernel
theorem de_K_standInLine_24 : decode bc_K_standInLine 24 = .ok (.getfield 74, 3) := by decide +kernel
theorem de_K_standInLine_27 : decode bc_K_standInLine 27 = .ok (.invokevirtual 269, 3) := by decide +kernel
theorem de_K_standInLine_30 : decode bc_K_standInLine 30 = .ok (.aload_n 1, 1) := by decide +kernel
theorem de_K_standInLine_31 : decode bc_K_standInLine 31 = .ok (.iconst 4, 1) := by decide +kernel
theorem de_K_standInLine_32 : decode bc_K_standInLine 32 = .ok (.putfield 84, 3) := by decide +kernel
theorem de_K_standInLine_35 : decode bc_K_standInLine 35 = .ok (.aload_n 1, 1) := by decide +kernel
theorem de_K_standInLine_36 : decode bc_K_standInLine 36 = .ok (.aload_n 0, 1) := by decide +kernel
theorem de_K_standInLine_37 : decode bc_K_standInLine 37 = .ok (.getfield 49, 3) := by decide +kernel
theorem de_K_standInLine_40 : decode bc_K_standInLine 40 = .ok (.putfield 273, 3) := by decide +kernel
theorem de_K_standInLine_43 : decode bc_K_standInLine 43 = .ok (.iconst 0, 1) := by decide +kernel
theorem de_K_standInLine_44 : decode bc_K_standInLine 44 = .ok (.ireturn, 1) := by decide +kernel
theorem de_T_put_0 : decode bc_T_put 0 = .ok (.aload_n 0, 1) := by decide +kernel
theorem de_T_put_1 : decode bc_T_put 1 = .ok (.getfield 15, 3) := by decide +kernel
theorem de_T_put_4 : decode bc_T_put 4 = .ok (.iload_n 1, 1) := by decide +kernel
theorem de_T_put_5 : decode bc_T_put 5 = .ok (.iadd, 1) := by decide +kernel
theorem de_T_put_6 : decode bc_T_put 6 = .ok (.aload_n 0, 1) := by decide +kernel
theorem de_T_put_7 : decode bc_T_put 7 = .ok (.getfield 9, 3) := by decide +kernel
theorem de_T_put_10 : decode bc_T_put 10 = .ok (.if_icmp .le 5, 3) := by decide +kernel
theorem de_T_put_13 : decode bc_T_put 13 = .ok (.iconst 0, 1) := by decide +kernel
theorem de_T_put_14 : decode bc_T_put 14 = .ok (.ireturn, 1) := by decide +kernel
theorem de_T_put_15 : decode bc_T_put 15 = .ok (.aload_n 0, 1) := by decide +kernel
theorem de_T_put_16 : decode bc_T_put 16 = .ok (.dup, 1) := by decide +kernel
theorem de_T_put_17 : decode bc_T_put 17 = .ok (.getfield 15, 3) := by decide +kernel
theorem de_T_put_20 : decode bc_T_put 20 = .ok (.iload_n 1, 1) := by decide +kernel
theorem de_T_put_21 : decode bc_T_put 21 = .ok (.iadd, 1) := by decide +kernel
theorem de_T_put_22 : decode bc_T_put 22 = .ok (.putfield 15, 3) := by decide +kernel
theorem de_T_put_25 : decode bc_T_put 25 = .ok (.iconst 1, 1) := by decide +kernel
theorem de_T_put_26 : decode bc_T_put 26 = .ok (.ireturn, 1) := by decide +kernel
theorem de_T_take_0 : decode bc_T_take 0 = .ok (.aload_n 0, 1) := by decide +kernel
theorem de_T_take_1 : decode bc_T_take 1 = .ok (.getfield 15, 3) := by decide +kernel
theorem de_T_take_4 : decode bc_T_take 4 = .ok (.iload_n 1, 1) := by decide +kernel
theorem de_T_take_5 : decode bc_T_take 5 = .ok (.if_icmp .ge 5, 3) := by decide +kernel
theorem de_T_take_8 : decode bc_T_take 8 = .ok (.iconst 0, 1) := by decide +kernel
theorem de_T_take_9 : decode bc_T_take 9 = .ok (.ireturn, 1) := by decide +kernel
theorem de_T_take_10 : decode bc_T_take 10 = .ok (.aload_n 0, 1) := by decide +kernel
theorem de_T_take_11 : decode bc_T_take 11 = .ok (.dup, 1) := by decide +kernel
theorem de_T_take_12 : decode bc_T_take 12 = .ok (.getfield 15, 3) := by decide +kernel
theorem de_T_take_15 : decode bc_T_take 15 = .ok (.iload_n 1, 1) := by decide +kernel
theorem de_T_take_16 : decode bc_T_take 16 = .ok (.isub, 1) := by decide +kernel
theorem de_T_take_17 : decode bc_T_take 17 = .ok (.putfield 15, 3) := by decide +kernel
theorem de_T_take_20 : decode bc_T_take 20 = .ok (.iconst 1, 1) := by decide +kernel
theorem de_T_take_21 : decode bc_T_take 21 = .ok (.ireturn, 1) := by decide +kernel
theorem de_K_meetCondition_0 : decode bc_K_meetCondition 0 = .ok (.aload_n 1, 1) := by decide +kernel
theorem de_K_meetCondition_1 : decode bc_K_meetCondition 1 = .ok (.invokevirtual 220, 3) := by decide +kernel
theorem de_K_meetCondition_4 : decode bc_K_meetCondition 4 = .ok (.istore_n 2, 1) := by decide +kernel
theorem de_K_meetCondition_5 : decode bc_K_meetCondition 5 = .ok (.aload_n 1, 1) := by decide +kernel
theorem de_K_meetCondition_6 : decode bc_K_meetCondition 6 = .ok (.getfield 140, 3) := by decide +kernel
theorem de_K_meetCondition_9 : decode bc_K_meetCondition 9 = .ok (.aload_n 1, 1) := by decide +kernel
theorem de_K_meetCondition_10 : decode bc_K_meetCondition 10 = .ok (.getfield 217, 3) := by decide +kernel
theorem de_K_meetCondition_13 : decode bc_K_meetCondition 13 = .ok (.iaload, 1) := by decide +kernel
theorem de_K_meetCondition_14 : decode bc_K_meetCondition 14 = .ok (.lookupswitch 54 #[(4, 26), (5, 40)], 26) := by decide +kernel
theorem de_K_meetCondition_40 : decode bc_K_meetCondition 40 = .ok (.aload_n 0, 1) := by decide +kernel
theorem de_K_meetCondition_41 : decode bc_K_meetCondition 41 = .ok (.getfield 23, 3) := by decide +kernel
theorem de_K_meetCondition_44 : decode bc_K_meetCondition 44 = .ok (.iload_n 2, 1) := by decide +kernel
theorem de_K_meetCondition_45 : decode bc_K_meetCondition 45 = .ok (.aaload, 1) := by decide +kernel
theorem de_K_meetCondition_46 : decode bc_K_meetCondition 46 = .ok (.aload_n 1, 1) := by decide +kernel
theorem de_K_meetCondition_47 : decode bc_K_meetCondition 47 = .ok (.invokevirtual 232, 3) := by decide +kernel
theorem de_K_meetCondition_50 : decode bc_K_meetCondition 50 = .ok (.invokevirtual 290, 3) := by decide +kernel
theorem de_K_meetCondition_53 : decode bc_K_meetCondition 53 = .ok (.ireturn, 1) := by decide +kernel
theorem de_K_meetCondition_54 : decode bc_K_meetCondition 54 = .ok (.aload_n 0, 1) := by decide +kernel
theorem de_K_meetCondition_55 : decode bc_K_meetCondition 55 = .ok (.getfield 23, 3) := by decide +kernel
theorem de_K_meetCondition_58 : decode bc_K_meetCondition 58 = .ok (.iload_n 2, 1) := by decide +kernel
theorem de_K_meetCondition_59 : decode bc_K_meetCondition 59 = .ok (.aaload, 1) := by decide +kernel
theorem de_K_meetCondition_60 : decode bc_K_meetCondition 60 = .ok (.aload_n 1, 1) := by decide +kernel
theorem de_K_meetCondition_61 : decode bc_K_meetCondition 61 = .ok (.invokevirtual 232, 3) := by decide +kernel
theorem de_K_meetCondition_64 : decode bc_K_meetCondition 64 = .ok (.invokevirtual 293, 3) := by decide +kernel
theorem de_K_meetCondition_67 : decode bc_K_meetCondition 67 = .ok (.ireturn, 1) := by decide +kernel
theorem de_K_meetCondition_68 : decode bc_K_meetCondition 68 = .ok (.aload_n 0, 1) := by decide +kernel
theorem de_K_meetCondition_69 : decode bc_K_meetCondition 69 = .ok (.iload_n 2, 1) := by decide +kernel
theorem de_K_meetCondition_70 : decode bc_K_meetCondition 70 = .ok (.invokevirtual 77, 3) := by decide +kernel
theorem de_K_meetCondition_73 : decode bc_K_meetCondition 73 = .ok (.ifCond .eq 15, 3) := by decide +kernel
theorem de_K_meetCondition_76 : decode bc_K_meetCondition 76 = .ok (.aload_n 0, 1) := by decide +kernel
theorem de_K_meetCondition_77 : decode bc_K_meetCondition 77 = .ok (.getfield 11, 3) := by decide +kernel
theorem de_K_meetCondition_80 : decode bc_K_meetCondition 80 = .ok (.iload_n 2, 1) := by decide +kernel
theorem de_K_meetCondition_81 : decode bc_K_meetCondition 81 = .ok (.aaload, 1) := by decide +kernel
theorem de_K_meetCondition_82 : decode bc_K_meetCondition 82 = .ok (.invokevirtual 137, 3) := by decide +kernel
theorem de_K_meetCondition_85 : decode bc_K_meetCondition 85 = .ok (.ifCond .eq 7, 3) := by decide +kernel
theorem de_K_meetCondition_88 : decode bc_K_meetCondition 88 = .ok (.iconst 1, 1) := by decide +kernel
theorem de_K_meetCondition_89 : decode bc_K_meetCondition 89 = .ok (.goto 4, 3) := by decide +kernel
theorem de_K_meetCondition_92 : decode bc_K_meetCondition 92 = .ok (.iconst 0, 1) := by decide +kernel
theorem de_K_meetCondition_93 : decode bc_K_meetCondition 93 = .ok (.ireturn, 1) := by decide +kernel
theorem de_K_waitForCondition_0 : decode bc_K_waitForCondition 0 = .ok (.aload_n 0, 1) := by decide +kernel
theorem de_K_waitForCondition_1 : decode bc_K_waitForCondition 1 = .ok (.getfield 30, 3) := by decide +kernel
theorem de_K_waitForCondition_4 : decode bc_K_waitForCondition 4 = .ok (.aload_n 0, 1) := by decide +kernel
theorem de_K_waitForCondition_5 : decode bc_K_waitForCondition 5 = .ok (.getfield 30, 3) := by decide +kernel
theorem de_K_waitForCondition_8 : decode bc_K_waitForCondition 8 = .ok (.getfield 182, 3) := by decide +kernel
theorem de_K_waitForCondition_11 : decode bc_K_waitForCondition 11 = .ok (.aload_n 1, 1) := by decide +kernel
theorem de_K_waitForCondition_12 : decode bc_K_waitForCondition 12 = .ok (.getfield 74, 3) := by decide +kernel
theorem de_K_waitForCondition_15 : decode bc_K_waitForCondition 15 = .ok (.invokevirtual 269, 3) := by decide +kernel
theorem de_K_waitForCondition_18 : decode bc_K_waitForCondition 18 = .ok (.aload_n 1, 1) := by decide +kernel
theorem de_K_waitForCondition_19 : decode bc_K_waitForCondition 19 = .ok (.iconst 5, 1) := by decide +kernel
theorem de_K_waitForCondition_20 : decode bc_K_waitForCondition 20 = .ok (.putfield 84, 3) := by decide +kernel
theorem de_K_waitForCondition_23 : decode bc_K_waitForCondition 23 = .ok (.iconst 0, 1) := by decide +kernel
theorem de_K_waitForCondition_24 : decode bc_K_waitForCondition 24 = .ok (.ireturn, 1) := by decide +kernel
theorem de_K_perform_0 : decode bc_K_perform 0 = .ok (.aload_n 1, 1) := by decide +kernel
theorem de_K_perform_1 : decode bc_K_perform 1 = .ok (.aload_n 1, 1) := by decide +kernel
theorem de_K_perform_2 : decode bc_K_perform 2 = .ok (.getfield 134, 3) := by decide +kernel
theorem de_K_perform_5 : decode bc_K_perform 5 = .ok (.putfield 217, 3) := by decide +kernel
theorem de_K_perform_8 : decode bc_K_perform 8 = .ok (.aload_n 1, 1) := by decide +kernel
theorem de_K_perform_9 : decode bc_K_perform 9 = .ok (.dup, 1) := by decide +kernel
theorem de_K_perform_10 : decode bc_K_perform 10 = .ok (.getfield 134, 3) := by decide +kernel
theorem de_K_perform_13 : decode bc_K_perform 13 = .ok (.iconst 1, 1) := by decide +kernel
theorem de_K_perform_14 : decode bc_K_perform 14 = .ok (.iadd, 1) := by decide +kernel
theorem de_K_perform_15 : decode bc_K_perform 15 = .ok (.putfield 134, 3) := by decide +kernel
theorem de_K_perform_18 : decode bc_K_perform 18 = .ok (.aload_n 1, 1) := by decide +kernel
theorem de_K_perform_19 : decode bc_K_perform 19 = .ok (.invokevirtual 220, 3) := by decide +kernel
theorem de_K_perform_22 : decode bc_K_perform 22 = .ok (.istore_n 2, 1) := by decide +kernel
theorem de_K_perform_23 : decode bc_K_perform 23 = .ok (.aload_n 1, 1) := by decide +kernel
theorem de_K_perform_24 : decode bc_K_perform 24 = .ok (.getfield 140, 3) := by decide +kernel
theorem de_K_perform_27 : decode bc_K_perform 27 = .ok (.aload_n 1, 1) := by decide +kernel
theorem de_K_perform_28 : decode bc_K_perform 28 = .ok (.getfield 217, 3) := by decide +kernel
theorem de_K_perform_31 : decode bc_K_perform 31 = .ok (.iaload, 1) := by decide +kernel
theorem de_K_perform_32 : decode bc_K_perform 32 = .ok (.tableswitch 174 0 9 #[56, 65, 72, 102, 114, 114, 114, 136, 145, 153], 56) := by decide +kernel
theorem de_K_perform_88 : decode bc_K_perform 88 = .ok (.aload_n 0, 1) := by decide +kernel
theorem de_K_perform_89 : decode bc_K_perform 89 = .ok (.aload_n 1, 1) := by decide +kernel
theorem de_K_perform_90 : decode bc_K_perform 90 = .ok (.iconst 2, 1) := by decide +kernel
theorem de_K_perform_91 : decode bc_K_perform 91 = .ok (.iload_n 2, 1) := by decide +kernel
theorem de_K_perform_92 : decode bc_K_perform 92 = .ok (.invokevirtual 118, 3) := by decide +kernel
theorem de_K_perform_95 : decode bc_K_perform 95 = .ok (.iconst 0, 1) := by decide +kernel
theorem de_K_perform_96 : decode bc_K_perform 96 = .ok (.ireturn, 1) := by decide +kernel
theorem de_K_perform_97 : decode bc_K_perform 97 = .ok (.aload_n 1, 1) := by decide +kernel
theorem de_K_perform_98 : decode bc_K_perform 98 = .ok (.iconst 3, 1) := by decide +kernel
theorem de_K_perform_99 : decode bc_K_perform 99 = .ok (.putfield 84, 3) := by decide +kernel
theorem de_K_perform_102 : decode bc_K_perform 102 = .ok (.iconst 0, 1) := by decide +kernel
theorem de_K_perform_103 : decode bc_K_perform 103 = .ok (.ireturn, 1) := by decide +kernel
theorem de_K_perform_104 : decode bc_K_perform 104 = .ok (.aload_n 0, 1) := by decide +kernel
theorem de_K_perform_105 : decode bc_K_perform 105 = .ok (.aload_n 1, 1) := by decide +kernel
theorem de_K_perform_106 : decode bc_K_perform 106 = .ok (.invokevirtual 223, 3) := by decide +kernel
theorem de_K_perform_109 : decode bc_K_perform 109 = .ok (.ifCond .ne 19, 3) := by decide +kernel
theorem de_K_perform_112 : decode bc_K_perform 112 = .ok (.aload_n 0, 1) := by decide +kernel
theorem de_K_perform_113 : decode bc_K_perform 113 = .ok (.aload_n 1, 1) := by decide +kernel
theorem de_K_perform_114 : decode bc_K_perform 114 = .ok (.invokevirtual 226, 3) := by decide +kernel
theorem de_K_perform_117 : decode bc_K_perform 117 = .ok (.ifCond .ne 11, 3) := by decide +kernel
theorem de_K_perform_120 : decode bc_K_perform 120 = .ok (.aload_n 0, 1) := by decide +kernel
theorem de_K_perform_121 : decode bc_K_perform 121 = .ok (.aload_n 1, 1) := by decide +kernel
theorem de_K_perform_122 : decode bc_K_perform 122 = .ok (.invokevirtual 229, 3) := by decide +kernel
theorem de_K_perform_125 : decode bc_K_perform 125 = .ok (.ifCond .eq 7, 3) := by decide +kernel
theorem de_K_perform_128 : decode bc_K_perform 128 = .ok (.iconst 1, 1) := by decide +kernel
theorem de_K_perform_129 : decode bc_K_perform 129 = .ok (.goto 4, 3) := by decide +kernel
theorem de_K_perform_132 : decode bc_K_perform 132 = .ok (.iconst 0, 1) := by decide +kernel
theorem de_K_perform_133 : decode bc_K_perform 133 = .ok (.ireturn, 1) := by decide +kernel
theorem de_K_perform_134 : decode bc_K_perform 134 = .ok (.aload_n 0, 1) := by decide +kernel
theorem de_K_perform_135 : decode bc_K_perform 135 = .ok (.aload_n 1, 1) := by decide +kernel
theorem de_K_perform_136 : decode bc_K_perform 136 = .ok (.iload_n 2, 1) := by decide +kernel
theorem de_K_perform_137 : decode bc_K_perform 137 = .ok (.aload_n 1, 1) := by decide +kernel
theorem de_K_perform_138 : decode bc_K_perform 138 = .ok (.invokevirtual 232, 3) := by decide +kernel
theorem de_K_perform_141 : decode bc_K_perform 141 = .ok (.invokevirtual 149, 3) := by decide +kernel
theorem de_K_perform_144 : decode bc_K_perform 144 = .ok (.iconst 1, 1) := by decide +kernel
theorem de_K_perform_145 : decode bc_K_perform 145 = .ok (.ireturn, 1) := by decide +kernel
theorem de_K_perform_146 : decode bc_K_perform 146 = .ok (.aload_n 0, 1) := by decide +kernel
theorem de_K_perform_147 : decode bc_K_perform 147 = .ok (.aload_n 1, 1) := by decide +kernel
theorem de_K_perform_148 : decode bc_K_perform 148 = .ok (.invokevirtual 235, 3) := by decide +kernel
theorem de_K_perform_151 : decode bc_K_perform 151 = .ok (.ifCond .ne 11, 3) := by decide +kernel
theorem de_K_perform_154 : decode bc_K_perform 154 = .ok (.aload_n 0, 1) := by decide +kernel
theorem de_K_perform_155 : decode bc_K_perform 155 = .ok (.aload_n 1, 1) := by decide +kernel
theorem de_K_perform_156 : decode bc_K_perform 156 = .ok (.invokevirtual 238, 3) := by decide +kernel
theorem de_K_perform_159 : decode bc_K_perform 159 = .ok (.ifCond .eq 7, 3) := by decide +kernel
theorem de_K_perform_162 : decode bc_K_perform 162 = .ok (.iconst 1, 1) := by decide +kernel
theorem de_K_perform_163 : decode bc_K_perform 163 = .ok (.goto 4, 3) := by decide +kernel
theorem de_K_perform_166 : decode bc_K_perform 166 = .ok (.iconst 0, 1) := by decide +kernel
theorem de_K_perform_167 : decode bc_K_perform 167 = .ok (.ireturn, 1) := by decide +kernel
theorem de_K_perform_168 : decode bc_K_perform 168 = .ok (.aload_n 0, 1) := by decide +kernel
theorem de_K_perform_169 : decode bc_K_perform 169 = .ok (.iload_n 2, 1) := by decide +kernel
theorem de_K_perform_170 : decode bc_K_perform 170 = .ok (.iconst 0, 1) := by decide +kernel
theorem de_K_perform_171 : decode bc_K_perform 171 = .ok (.invokevirtual 241, 3) := by decide +kernel
theorem de_K_perform_174 : decode bc_K_perform 174 = .ok (.pop, 1) := by decide +kernel
theorem de_K_perform_175 : decode bc_K_perform 175 = .ok (.iconst 1, 1) := by decide +kernel
theorem de_K_perform_176 : decode bc_K_perform 176 = .ok (.ireturn, 1) := by decide +kernel
