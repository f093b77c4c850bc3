theorem de_K_give_25 : decode bc_K_give 25 = .ok (.return_, 1) := by decide +kernel
theorem de_L_drop_0 : decode bc_L_drop 0 = .ok (.iconst 0, 1) := by decide +kernel
theorem de_L_drop_1 : decode bc_L_drop 1 = .ok (.istore_n 2, 1) := by decide +kernel
theorem de_L_drop_2 : decode bc_L_drop 2 = .ok (.iconst 0, 1) := by decide +kernel
theorem de_L_drop_3 : decode bc_L_drop 3 = .ok (.istore_n 3, 1) := by decide +kernel
theorem de_L_drop_4 : decode bc_L_drop 4 = .ok (.iload_n 3, 1) := by decide +kernel
theorem de_L_drop_5 : decode bc_L_drop 5 = .ok (.aload_n 0, 1) := by decide +kernel
theorem de_L_drop_6 : decode bc_L_drop 6 = .ok (.getfield 15, 3) := by decide +kernel
theorem de_L_drop_9 : decode bc_L_drop 9 = .ok (.if_icmp .ge 34, 3) := by decide +kernel
theorem de_L_drop_12 : decode bc_L_drop 12 = .ok (.aload_n 0, 1) := by decide +kernel
theorem de_L_drop_13 : decode bc_L_drop 13 = .ok (.getfield 9, 3) := by decide +kernel
theorem de_L_drop_16 : decode bc_L_drop 16 = .ok (.iload_n 3, 1) := by decide +kernel
theorem de_L_drop_17 : decode bc_L_drop 17 = .ok (.iaload, 1) := by decide +kernel
theorem de_L_drop_18 : decode bc_L_drop 18 = .ok (.iload_n 1, 1) := by decide +kernel
theorem de_L_drop_19 : decode bc_L_drop 19 = .ok (.if_icmp .eq 18, 3) := by decide +kernel
theorem de_L_drop_22 : decode bc_L_drop 22 = .ok (.aload_n 0, 1) := by decide +kernel
theorem de_L_drop_23 : decode bc_L_drop 23 = .ok (.getfield 9, 3) := by decide +kernel
theorem de_L_drop_26 : decode bc_L_drop 26 = .ok (.iload_n 2, 1) := by decide +kernel
theorem de_L_drop_27 : decode bc_L_drop 27 = .ok (.aload_n 0, 1) := by decide +kernel
theorem de_L_drop_28 : decode bc_L_drop 28 = .ok (.getfield 9, 3) := by decide +kernel
theorem de_L_drop_31 : decode bc_L_drop 31 = .ok (.iload_n 3, 1) := by decide +kernel
theorem de_L_drop_32 : decode bc_L_drop 32 = .ok (.iaload, 1) := by decide +kernel
theorem de_L_drop_33 : decode bc_L_drop 33 = .ok (.iastore, 1) := by decide +kernel
theorem de_L_drop_34 : decode bc_L_drop 34 = .ok (.iinc 2 1, 3) := by decide +kernel
theorem de_L_drop_37 : decode bc_L_drop 37 = .ok (.iinc 3 1, 3) := by decide +kernel
theorem de_L_drop_40 : decode bc_L_drop 40 = .ok (.goto (-36), 3) := by decide +kernel
theorem de_L_drop_43 : decode bc_L_drop 43 = .ok (.aload_n 0, 1) := by decide +kernel
theorem de_L_drop_44 : decode bc_L_drop 44 = .ok (.iload_n 2, 1) := by decide +kernel
theorem de_L_drop_45 : decode bc_L_drop 45 = .ok (.putfield 15, 3) := by decide +kernel
theorem de_L_drop_48 : decode bc_L_drop 48 = .ok (.return_, 1) := by decide +kernel
theorem de_K_enter_0 : decode bc_K_enter 0 = .ok (.aload_n 1, 1) := by decide +kernel
theorem de_K_enter_1 : decode bc_K_enter 1 = .ok (.iload_n 2, 1) := by decide +kernel
theorem de_K_enter_2 : decode bc_K_enter 2 = .ok (.putfield 84, 3) := by decide +kernel
theorem de_K_enter_5 : decode bc_K_enter 5 = .ok (.aload_n 1, 1) := by decide +kernel
theorem de_K_enter_6 : decode bc_K_enter 6 = .ok (.iconst 1, 1) := by decide +kernel
theorem de_K_enter_7 : decode bc_K_enter 7 = .ok (.putfield 198, 3) := by decide +kernel
theorem de_K_enter_10 : decode bc_K_enter 10 = .ok (.aload_n 1, 1) := by decide +kernel
theorem de_K_enter_11 : decode bc_K_enter 11 = .ok (.aload_n 0, 1) := by decide +kernel
theorem de_K_enter_12 : decode bc_K_enter 12 = .ok (.getfield 49, 3) := by decide +kernel
theorem de_K_enter_15 : decode bc_K_enter 15 = .ok (.iload_n 3, 1) := by decide +kernel
theorem de_K_enter_16 : decode bc_K_enter 16 = .ok (.i2l, 1) := by decide +kernel
theorem de_K_enter_17 : decode bc_K_enter 17 = .ok (.ladd, 1) := by decide +kernel
theorem de_K_enter_18 : decode bc_K_enter 18 = .ok (.putfield 158, 3) := by decide +kernel
theorem de_K_enter_21 : decode bc_K_enter 21 = .ok (.aload_n 1, 1) := by decide +kernel
theorem de_K_enter_22 : decode bc_K_enter 22 = .ok (.aload_n 0, 1) := by decide +kernel
theorem de_K_enter_23 : decode bc_K_enter 23 = .ok (.getfield 53, 3) := by decide +kernel
theorem de_K_enter_26 : decode bc_K_enter 26 = .ok (.putfield 201, 3) := by decide +kernel
theorem de_K_enter_29 : decode bc_K_enter 29 = .ok (.aload_n 0, 1) := by decide +kernel
theorem de_K_enter_30 : decode bc_K_enter 30 = .ok (.dup, 1) := by decide +kernel
theorem de_K_enter_31 : decode bc_K_enter 31 = .ok (.getfield 53, 3) := by decide +kernel
theorem de_K_enter_34 : decode bc_K_enter 34 = .ok (.lconst 1, 1) := by decide +kernel
theorem de_K_enter_35 : decode bc_K_enter 35 = .ok (.ladd, 1) := by decide +kernel
theorem de_K_enter_36 : decode bc_K_enter 36 = .ok (.putfield 53, 3) := by decide +kernel
theorem de_K_enter_39 : decode bc_K_enter 39 = .ok (.return_, 1) := by decide +kernel
theorem de_K_serve_0 : decode bc_K_serve 0 = .ok (.iload_n 1, 1) := by decide +kernel
theorem de_K_serve_1 : decode bc_K_serve 1 = .ok (.iconst (-1), 1) := by decide +kernel
theorem de_K_serve_2 : decode bc_K_serve 2 = .ok (.if_icmp .ne 4, 3) := by decide +kernel
theorem de_K_serve_5 : decode bc_K_serve 5 = .ok (.return_, 1) := by decide +kernel
theorem de_K_serve_6 : decode bc_K_serve 6 = .ok (.aload_n 0, 1) := by decide +kernel
theorem de_K_serve_7 : decode bc_K_serve 7 = .ok (.getfield 17, 3) := by decide +kernel
theorem de_K_serve_10 : decode bc_K_serve 10 = .ok (.iload_n 1, 1) := by decide +kernel
theorem de_K_serve_11 : decode bc_K_serve 11 = .ok (.aaload, 1) := by decide +kernel
theorem de_K_serve_12 : decode bc_K_serve 12 = .ok (.astore_n 2, 1) := by decide +kernel
theorem de_K_serve_13 : decode bc_K_serve 13 = .ok (.aload_n 2, 1) := by decide +kernel
theorem de_K_serve_14 : decode bc_K_serve 14 = .ok (.getfield 185, 3) := by decide +kernel
theorem de_K_serve_17 : decode bc_K_serve 17 = .ok (.getfield 182, 3) := by decide +kernel
theorem de_K_serve_20 : decode bc_K_serve 20 = .ok (.istore_n 3, 1) := by decide +kernel
theorem de_K_serve_21 : decode bc_K_serve 21 = .ok (.iload_n 3, 1) := by decide +kernel
theorem de_K_serve_22 : decode bc_K_serve 22 = .ok (.ifCond .le 89, 3) := by decide +kernel
theorem de_K_serve_25 : decode bc_K_serve 25 = .ok (.aload_n 0, 1) := by decide +kernel
theorem de_K_serve_26 : decode bc_K_serve 26 = .ok (.getfield 11, 3) := by decide +kernel
theorem de_K_serve_29 : decode bc_K_serve 29 = .ok (.aload_n 2, 1) := by decide +kernel
theorem de_K_serve_30 : decode bc_K_serve 30 = .ok (.getfield 185, 3) := by decide +kernel
theorem de_K_serve_33 : decode bc_K_serve 33 = .ok (.getfield 251, 3) := by decide +kernel
theorem de_K_serve_36 : decode bc_K_serve 36 = .ok (.iconst 0, 1) := by decide +kernel
theorem de_K_serve_37 : decode bc_K_serve 37 = .ok (.iaload, 1) := by decide +kernel
theorem de_K_serve_38 : decode bc_K_serve 38 = .ok (.aaload, 1) := by decide +kernel
theorem de_K_serve_39 : decode bc_K_serve 39 = .ok (.astore 4, 2) := by decide +kernel
theorem de_K_serve_41 : decode bc_K_serve 41 = .ok (.aload 4, 2) := by decide +kernel
theorem de_K_serve_43 : decode bc_K_serve 43 = .ok (.invokevirtual 232, 3) := by decide +kernel
theorem de_K_serve_46 : decode bc_K_serve 46 = .ok (.aload_n 2, 1) := by decide +kernel
theorem de_K_serve_47 : decode bc_K_serve 47 = .ok (.invokevirtual 179, 3) := by decide +kernel
theorem de_K_serve_50 : decode bc_K_serve 50 = .ok (.if_icmp .le 4, 3) := by decide +kernel
theorem de_K_serve_53 : decode bc_K_serve 53 = .ok (.return_, 1) := by decide +kernel
theorem de_K_serve_54 : decode bc_K_serve 54 = .ok (.aload_n 0, 1) := by decide +kernel
theorem de_K_serve_55 : decode bc_K_serve 55 = .ok (.aload 4, 2) := by decide +kernel
theorem de_K_serve_57 : decode bc_K_serve 57 = .ok (.iload_n 1, 1) := by decide +kernel
theorem de_K_serve_58 : decode bc_K_serve 58 = .ok (.aload 4, 2) := by decide +kernel
theorem de_K_serve_60 : decode bc_K_serve 60 = .ok (.invokevirtual 232, 3) := by decide +kernel
theorem de_K_serve_63 : decode bc_K_serve 63 = .ok (.invokevirtual 258, 3) := by decide +kernel
theorem de_K_serve_66 : decode bc_K_serve 66 = .ok (.aload_n 2, 1) := by decide +kernel
theorem de_K_serve_67 : decode bc_K_serve 67 = .ok (.dup, 1) := by decide +kernel
theorem de_K_serve_68 : decode bc_K_serve 68 = .ok (.getfield 191, 3) := by decide +kernel
theorem de_K_serve_71 : decode bc_K_serve 71 = .ok (.aload_n 0, 1) := by decide +kernel
theorem de_K_serve_72 : decode bc_K_serve 72 = .ok (.getfield 49, 3) := by decide +kernel
theorem de_K_serve_75 : decode bc_K_serve 75 = .ok (.aload 4, 2) := by decide +kernel
theorem de_K_serve_77 : decode bc_K_serve 77 = .ok (.getfield 273, 3) := by decide +kernel
theorem de_K_serve_80 : decode bc_K_serve 80 = .ok (.lsub, 1) := by decide +kernel
theorem de_K_serve_81 : decode bc_K_serve 81 = .ok (.ladd, 1) := by decide +kernel
theorem de_K_serve_82 : decode bc_K_serve 82 = .ok (.putfield 191, 3) := by decide +kernel
theorem de_K_serve_85 : decode bc_K_serve 85 = .ok (.aload_n 2, 1) := by decide +kernel
theorem de_K_serve_86 : decode bc_K_serve 86 = .ok (.getfield 185, 3) := by decide +kernel
theorem de_K_serve_89 : decode bc_K_serve 89 = .ok (.aload 4, 2) := by decide +kernel
theorem de_K_serve_91 : decode bc_K_serve 91 = .ok (.getfield 74, 3) := by decide +kernel
theorem de_K_serve_94 : decode bc_K_serve 94 = .ok (.invokevirtual 287, 3) := by decide +kernel
theorem de_K_serve_97 : decode bc_K_serve 97 = .ok (.aload_n 0, 1) := by decide +kernel
theorem de_K_serve_98 : decode bc_K_serve 98 = .ok (.aload 4, 2) := by decide +kernel
theorem de_K_serve_100 : decode bc_K_serve 100 = .ok (.iconst 1, 1) := by decide +kernel
theorem de_K_serve_101 : decode bc_K_serve 101 = .ok (.iconst 0, 1) := by decide +kernel
theorem de_K_serve_102 : decode bc_K_serve 102 = .ok (.invokevirtual 118, 3) := by decide +kernel
theorem de_K_serve_105 : decode bc_K_serve 105 = .ok (.iinc 3 (-1), 3) := by decide +kernel
theorem de_K_serve_108 : decode bc_K_serve 108 = .ok (.goto (-87), 3) := by decide +kernel
theorem de_K_serve_111 : decode bc_K_serve 111 = .ok (.return_, 1) := by decide +kernel
theorem de_K_resource_0 : decode bc_K_resource 0 = .ok (.iload_n 1, 1) := by decide +kernel
theorem de_K_resource_1 : decode bc_K_resource 1 = .ok (.invokestatic 94, 3) := by decide +kernel
theorem de_K_resource_4 : decode bc_K_resource 4 = .ok (.ifCond .eq 26, 3) := by decide +kernel
theorem de_K_resource_7 : decode bc_K_resource 7 = .ok (.iload_n 2, 1) := by decide +kernel
theorem de_K_resource_8 : decode bc_K_resource 8 = .ok (.iconst 0, 1) := by decide +kernel
theorem de_K_resource_9 : decode bc_K_resource 9 = .ok (.bipush 9, 2) := by decide +kernel
theorem de_K_resource_11 : decode bc_K_resource 11 = .ok (.invokestatic 61, 3) := by decide +kernel
theorem de_K_resource_14 : decode bc_K_resource 14 = .ok (.ifCond .eq 16, 3) := by decide +kernel
theorem de_K_resource_17 : decode bc_K_resource 17 = .ok (.aload_n 0, 1) := by decide +kernel
theorem de_K_resource_18 : decode bc_K_resource 18 = .ok (.getfield 17, 3) := by decide +kernel
theorem de_K_resource_21 : decode bc_K_resource 21 = .ok (.iload_n 1, 1) := by decide +kernel
theorem de_K_resource_22 : decode bc_K_resource 22 = .ok (.aaload, 1) := by decide +kernel
theorem de_K_resource_23 : decode bc_K_resource 23 = .ok (.getfield 97, 3) := by decide +kernel
theorem de_K_resource_26 : decode bc_K_resource 26 = .ok (.iload_n 2, 1) := by decide +kernel
theorem de_K_resource_27 : decode bc_K_resource 27 = .ok (.if_icmp .le 5, 3) := by decide +kernel
theorem de_K_resource_30 : decode bc_K_resource 30 = .ok (.iconst 0, 1) := by decide +kernel
theorem de_K_resource_31 : decode bc_K_resource 31 = .ok (.ireturn, 1) := by decide +kernel
theorem de_K_resource_32 : decode bc_K_resource 32 = .ok (.aload_n 0, 1) := by decide +kernel
theorem de_K_resource_33 : decode bc_K_resource 33 = .ok (.getfield 17, 3) := by decide +kernel
theorem de_K_resource_36 : decode bc_K_resource 36 = .ok (.iload_n 1, 1) := by decide +kernel
theorem de_K_resource_37 : decode bc_K_resource 37 = .ok (.aaload, 1) := by decide +kernel
theorem de_K_resource_38 : decode bc_K_resource 38 = .ok (.iload_n 2, 1) := by decide +kernel
theorem de_K_resource_39 : decode bc_K_resource 39 = .ok (.putfield 100, 3) := by decide +kernel
theorem de_K_resource_42 : decode bc_K_resource 42 = .ok (.aload_n 0, 1) := by decide +kernel
theorem de_K_resource_43 : decode bc_K_resource 43 = .ok (.getfield 17, 3) := by decide +kernel
theorem de_K_resource_46 : decode bc_K_resource 46 = .ok (.iload_n 1, 1) := by decide +kernel
theorem de_K_resource_47 : decode bc_K_resource 47 = .ok (.aaload, 1) := by decide +kernel
theorem de_K_resource_48 : decode bc_K_resource 48 = .ok (.iload_n 3, 1) := by decide +kernel
theorem de_K_resource_49 : decode bc_K_resource 49 = .ok (.putfield 103, 3) := by decide +kernel
theorem de_K_resource_52 : decode bc_K_resource 52 = .ok (.aload_n 0, 1) := by decide +kernel
theorem de_K_resource_53 : decode bc_K_resource 53 = .ok (.iload_n 1, 1) := by decide +kernel
theorem de_K_resource_54 : decode bc_K_resource 54 = .ok (.invokevirtual 107, 3) := by decide +kernel
theorem de_K_resource_57 : decode bc_K_resource 57 = .ok (.iconst 1, 1) := by decide +kernel
theorem de_K_resource_58 : decode bc_K_resource 58 = .ok (.ireturn, 1) := by decide +kernel
theorem de_K_tank_0 : decode bc_K_tank 0 = .ok (.iload_n 1, 1) := by decide +kernel
theorem de_K_tank_1 : decode bc_K_tank 1 = .ok (.invokestatic 110, 3) := by decide +kernel
theorem de_K_tank_4 : decode bc_K_tank 4 = .ok (.ifCond .eq 23, 3) := by decide +kernel
theorem de_K_tank_7 : decode bc_K_tank 7 = .ok (.iload_n 2, 1) := by decide +kernel
theorem de_K_tank_8 : decode bc_K_tank 8 = .ok (.iconst 0, 1) := by decide +kernel
theorem de_K_tank_9 : decode bc_K_tank 9 = .ok (.sipush 1000, 3) := by decide +kernel
theorem de_K_tank_12 : decode bc_K_tank 12 = .ok (.invokestatic 61, 3) := by decide +kernel
theorem de_K_tank_15 : decode bc_K_tank 15 = .ok (.ifCond .eq 12, 3) := by decide +kernel
theorem de_K_tank_18 : decode bc_K_tank 18 = .ok (.iload_n 3, 1) := by decide +kernel
theorem de_K_tank_19 : decode bc_K_tank 19 = .ok (.iconst 0, 1) := by decide +kernel
theorem de_K_tank_20 : decode bc_K_tank 20 = .ok (.iload_n 2, 1) := by decide +kernel
theorem de_K_tank_21 : decode bc_K_tank 21 = .ok (.invokestatic 61, 3) := by decide +kernel
theorem de_K_tank_24 : decode bc_K_tank 24 = .ok (.ifCond .ne 5, 3) := by decide +kernel
theorem de_K_tank_27 : decode bc_K_tank 27 = .ok (.iconst 0, 1) := by decide +kernel
theorem de_K_tank_28 : decode bc_K_tank 28 = .ok (.ireturn, 1) := by decide +kernel
theorem de_K_tank_29 : decode bc_K_tank 29 = .ok (.aload_n 0, 1) := by decide +kernel
theorem de_K_tank_30 : decode bc_K_tank 30 = .ok (.getfield 23, 3) := by decide +kernel
theorem de_K_tank_33 : decode bc_K_tank 33 = .ok (.iload_n 1, 1) := by decide +kernel
theorem de_K_tank_34 : decode bc_K_tank 34 = .ok (.aaload, 1) := by decide +kernel
theorem de_K_tank_35 : decode bc_K_tank 35 = .ok (.iload_n 2, 1) := by decide +kernel
theorem de_K_tank_36 : decode bc_K_tank 36 = .ok (.putfield 113, 3) := by decide +kernel
theorem de_K_tank_39 : decode bc_K_tank 39 = .ok (.aload_n 0, 1) := by decide +kernel
theorem de_K_tank_40 : decode bc_K_tank 40 = .ok (.getfield 23, 3) := by decide +kernel
theorem de_K_tank_43 : decode bc_K_tank 43 = .ok (.iload_n 1, 1) := by decide +kernel
theorem de_K_tank_44 : decode bc_K_tank 44 = .ok (.aaload, 1) := by decide +kernel
theorem de_K_tank_45 : decode bc_K_tank 45 = .ok (.iload_n 3, 1) := by decide +kernel
theorem de_K_tank_46 : decode bc_K_tank 46 = .ok (.putfield 114, 3) := by decide +kernel
theorem de_K_tank_49 : decode bc_K_tank 49 = .ok (.iconst 1, 1) := by decide +kernel
theorem de_K_tank_50 : decode bc_K_tank 50 = .ok (.ireturn, 1) := by decide +kernel
theorem de_K_activate_0 : decode bc_K_activate 0 = .ok (.aload_n 0, 1) := by decide +kernel
theorem de_K_activate_1 : decode bc_K_activate 1 = .ok (.iload_n 1, 1) := by decide +kernel
theorem de_K_activate_2 : decode bc_K_activate 2 = .ok (.invokevirtual 77, 3) := by decide +kernel
theorem de_K_activate_5 : decode bc_K_activate 5 = .ok (.ifCond .eq 13, 3) := by decide +kernel
theorem de_K_activate_8 : decode bc_K_activate 8 = .ok (.iload_n 2, 1) := by decide +kernel
theorem de_K_activate_9 : decode bc_K_activate 9 = .ok (.iconst 0, 1) := by decide +kernel
theorem de_K_activate_10 : decode bc_K_activate 10 = .ok (.ldc 117, 2) := by decide +kernel
theorem de_K_activate_12 : decode bc_K_activate 12 = .ok (.invokestatic 61, 3) := by decide +kernel
theorem de_K_activate_15 : decode bc_K_activate 15 = .ok (.ifCond .ne 5, 3) := by decide +kernel
theorem de_K_activate_18 : decode bc_K_activate 18 = .ok (.iconst 0, 1) := by decide +kernel
theorem de_K_activate_19 : decode bc_K_activate 19 = .ok (.ireturn, 1) := by decide +kernel
theorem de_K_activate_20 : decode bc_K_activate 20 = .ok (.aload_n 0, 1) := by decide +kernel
theorem de_K_activate_21 : decode bc_K_activate 21 = .ok (.getfield 11, 3) := by decide +kernel
theorem de_K_activate_24 : decode bc_K_activate 24 = .ok (.iload_n 1, 1) := by decide +kernel
theorem de_K_activate_25 : decode bc_K_activate 25 = .ok (.aaload, 1) := by decide +kernel
theorem de_K_activate_26 : decode bc_K_activate 26 = .ok (.astore_n 3, 1) := by decide +kernel
theorem de_K_activate_27 : decode bc_K_activate 27 = .ok (.aload_n 3, 1) := by decide +kernel
theorem de_K_activate_28 : decode bc_K_activate 28 = .ok (.getfield 84, 3) := by decide +kernel
theorem de_K_activate_31 : decode bc_K_activate 31 = .ok (.ifCond .eq 13, 3) := by decide +kernel
theorem de_K_activate_34 : decode bc_K_activate 34 = .ok (.aload_n 3, 1) := by decide +kernel
theorem de_K_activate_35 : decode bc_K_activate 35 = .ok (.getfield 84, 3) := by decide +kernel
theorem de_K_activate_38 : decode bc_K_activate 38 = .ok (.iconst 3, 1) := by decide +kernel
theorem de_K_activate_39 : decode bc_K_activate 39 = .ok (.if_icmp .eq 5, 3) := by decide +kernel
theorem de_K_activate_42 : decode bc_K_activate 42 = .ok (.iconst 0, 1) := by decide +kernel
theorem de_K_activate_43 : decode bc_K_activate 43 = .ok (.ireturn, 1) := by decide +kernel
theorem de_K_activate_44 : decode bc_K_activate 44 = .ok (.aload_n 0, 1) := by decide +kernel
theorem de_K_activate_45 : decode bc_K_activate 45 = .ok (.aload_n 3, 1) := by decide +kernel
theorem de_K_activate_46 : decode bc_K_activate 46 = .ok (.iconst 1, 1) := by decide +kernel
theorem de_K_activate_47 : decode bc_K_activate 47 = .ok (.iload_n 2, 1) := by decide +kernel
theorem de_K_activate_48 : decode bc_K_activate 48 = .ok (.invokevirtual 118, 3) := by decide +kernel
theorem de_K_activate_51 : decode bc_K_activate 51 = .ok (.iconst 1, 1) := by decide +kernel
theorem de_K_activate_52 : decode bc_K_activate 52 = .ok (.ireturn, 1) := by decide +kernel
theorem de_P_isBreakable_0 : decode bc_P_isBreakable 0 = .ok (.aload_n 0, 1) := by decide +kernel
theorem de_P_isBreakable_1 : decode bc_P_isBreakable 1 = .ok (.getfield 37, 3) := by decide +kernel
theorem de_P_isBreakable_4 : decode bc_P_isBreakable 4 = .ok (.iconst 2, 1) := by decide +kernel
theorem de_P_isBreakable_5 : decode bc_P_isBreakable 5 = .ok (.if_icmp .eq 27, 3) := by decide +kernel
theorem de_P_isBreakable_8 : decode bc_P_isBreakable 8 = .ok (.aload_n 0, 1) := by decide +kernel
theorem de_P_isBreakable_9 : decode bc_P_isBreakable 9 = .ok (.getfield 37, 3) := by decide +kernel
theorem de_P_isBreakable_12 : decode bc_P_isBreakable 12 = .ok (.iconst 3, 1) := by decide +kernel
theorem de_P_isBreakable_13 : decode bc_P_isBreakable 13 = .ok (.if_icmp .eq 19, 3) := by decide +kernel
theorem de_P_isBreakable_16 : decode bc_P_isBreakable 16 = .ok (.aload_n 0, 1) := by decide +kernel
theorem de_P_isBreakable_17 : decode bc_P_isBreakable 17 = .ok (.getfield 37, 3) := by decide +kernel
theorem de_P_isBreakable_20 : decode bc_P_isBreakable 20 = .ok (.iconst 4, 1) := by decide +kernel
theorem de_P_isBreakable_21 : decode bc_P_isBreakable 21 = .ok (.if_icmp .eq 11, 3) := by decide +kernel
theorem de_P_isBreakable_24 : decode bc_P_isBreakable 24 = .ok (.aload_n 0, 1) := by decide +kernel
theorem de_P_isBreakable_25 : decode bc_P_isBreakable 25 = .ok (.getfield 37, 3) := by decide +kernel
theorem de_P_isBreakable_28 : decode bc_P_isBreakable 28 = .ok (.iconst 5, 1) := by decide +kernel
theorem de_P_isBreakable_29 : decode bc_P_isBreakable 29 = .ok (.if_icmp .ne 7, 3) := by decide +kernel
theorem de_P_isBreakable_32 : decode bc_P_isBreakable 32 = .ok (.iconst 1, 1) := by decide +kernel
theorem de_P_isBreakable_33 : decode bc_P_isBreakable 33 = .ok (.goto 4, 3) := by decide +kernel
theorem de_P_isBreakable_36 : decode bc_P_isBreakable 36 = .ok (.iconst 0, 1) := by decide +kernel
theorem de_P_isBreakable_37 : decode bc_P_isBreakable 37 = .ok (.ireturn, 1) := by decide +kernel
theorem de_P_firstOperand_0 : decode bc_P_firstOperand 0 = .ok (.aload_n 0, 1) := by decide +kernel
theorem de_P_firstOperand_1 : decode bc_P_firstOperand 1 = .ok (.getfield 15, 3) := by decide +kernel
theorem de_P_firstOperand_4 : decode bc_P_firstOperand 4 = .ok (.aload_n 0, 1) := by decide +kernel
theorem de_P_firstOperand_5 : decode bc_P_firstOperand 5 = .ok (.getfield 43, 3) := by decide +kernel
theorem de_P_firstOperand_8 : decode bc_P_firstOperand 8 = .ok (.iaload, 1) := by decide +kernel
theorem de_P_firstOperand_9 : decode bc_P_firstOperand 9 = .ok (.ireturn, 1) := by decide +kernel
theorem de_K_lineOf_0 : decode bc_K_lineOf 0 = .ok (.aload_n 1, 1) := by decide +kernel
theorem de_K_lineOf_1 : decode bc_K_lineOf 1 = .ok (.getfield 84, 3) := by decide +kernel
theorem de_K_lineOf_4 : decode bc_K_lineOf 4 = .ok (.iconst 4, 1) := by decide +kernel
theorem de_K_lineOf_5 : decode bc_K_lineOf 5 = .ok (.if_icmp .ne 10, 3) := by decide +kernel
theorem de_K_lineOf_8 : decode bc_K_lineOf 8 = .ok (.aload_n 1, 1) := by decide +kernel
theorem de_K_lineOf_9 : decode bc_K_lineOf 9 = .ok (.invokevirtual 220, 3) := by decide +kernel
theorem de_K_lineOf_12 : decode bc_K_lineOf 12 = .ok (.goto 4, 3) := by decide +kernel
theorem de_K_lineOf_15 : decode bc_K_lineOf 15 = .ok (.iconst (-1), 1) := by decide +kernel
theorem de_K_lineOf_16 : decode bc_K_lineOf 16 = .ok (.ireturn, 1) := by decide +kernel
theorem de_K_leave_0 : decode bc_K_leave 0 = .ok (.aload_n 1, 1) := by decide +kernel
theorem de_K_leave_1 : decode bc_K_leave 1 = .ok (.iconst 0, 1) := by decide +kernel
theorem de_K_leave_2 : decode bc_K_leave 2 = .ok (.putfield 198, 3) := by decide +kernel
theorem de_K_leave_5 : decode bc_K_leave 5 = .ok (.aload_n 1, 1) := by decide +kernel
theorem de_K_leave_6 : decode bc_K_leave 6 = .ok (.getfield 84, 3) := by decide +kernel
theorem de_K_leave_9 : decode bc_K_leave 9 = .ok (.iconst 4, 1) := by decide +kernel
theorem de_K_leave_10 : decode bc_K_leave 10 = .ok (.if_icmp .ne 22, 3) := by decide +kernel
theorem de_K_leave_13 : decode bc_K_leave 13 = .ok (.aload_n 0, 1) := by decide +kernel
theorem de_K_leave_14 : decode bc_K_leave 14 = .ok (.getfield 17, 3) := by decide +kernel
theorem de_K_leave_17 : decode bc_K_leave 17 = .ok (.aload_n 1, 1) := by decide +kernel
theorem de_K_leave_18 : decode bc_K_leave 18 = .ok (.invokevirtual 220, 3) := by decide +kernel
theorem de_K_leave_21 : decode bc_K_leave 21 = .ok (.aaload, 1) := by decide +kernel
theorem de_K_leave_22 : decode bc_K_leave 22 = .ok (.getfield 185, 3) := by decide +kernel
theorem de_K_leave_25 : decode bc_K_leave 25 = .ok (.aload_n 1, 1) := by decide +kernel
theorem de_K_leave_26 : decode bc_K_leave 26 = .ok (.getfield 74, 3) := by decide +kernel
theorem de_K_leave_29 : decode bc_K_leave 29 = .ok (.invokevirtual 287, 3) := by decide +kernel
theorem de_K_leave_32 : decode bc_K_leave 32 = .ok (.aload_n 1, 1) := by decide +kernel
theorem de_K_leave_33 : decode bc_K_leave 33 = .ok (.getfield 84, 3) := by decide +kernel
theorem de_K_leave_36 : decode bc_K_leave 36 = .ok (.iconst 5, 1) := by decide +kernel
theorem de_K_leave_37 : decode bc_K_leave 37 = .ok (.if_icmp .ne 14, 3) := by decide +kernel
theorem de_K_leave_40 : decode bc_K_leave 40 = .ok (.aload_n 0, 1) := by decide +kernel
theorem de_K_leave_41 : decode bc_K_leave 41 = .ok (.getfield 30, 3) := by decide +kernel
theorem de_K_leave_44 : decode bc_K_leave 44 = .ok (.aload_n 1, 1) := by decide +kernel
theorem de_K_leave_45 : decode bc_K_leave 45 = .ok (.getfield 74, 3) := by decide +kernel
theorem de_K_leave_48 : decode bc_K_leave 48 = .ok (.invokevirtual 287, 3) := by decide +kernel
theorem de_K_leave_51 : decode bc_K_leave 51 = .ok (.return_, 1) := by decide +kernel
theorem de_K_interrupt_0 : decode bc_K_interrupt 0 = .ok (.aload_n 0, 1) := by decide +kernel
theorem de_K_interrupt_1 : decode bc_K_interrupt 1 = .ok (.iload_n 1, 1) := by decide +kernel
theorem de_K_interrupt_2 : decode bc_K_interrupt 2 = .ok (.invokevirtual 77, 3) := by decide +kernel
theorem de_K_interrupt_5 : decode bc_K_interrupt 5 = .ok (.ifCond .eq 15, 3) := by decide +kernel
theorem de_K_interrupt_8 : decode bc_K_interrupt 8 = .ok (.aload_n 0, 1) := by decide +kernel
theorem de_K_interrupt_9 : decode bc_K_interrupt 9 = .ok (.getfield 11, 3) := by decide +kernel
theorem de_K_interrupt_12 : decode bc_K_interrupt 12 = .ok (.iload_n 1, 1) := by decide +kernel
theorem de_K_interrupt_13 : decode bc_K_interrupt 13 = .ok (.aaload, 1) := by decide +kernel
theorem de_K_interrupt_14 : decode bc_K_interrupt 14 = .ok (.invokevirtual 122, 3) := by decide +kernel
theorem de_K_interrupt_17 : decode bc_K_interrupt 17 = .ok (.ifCond .ne 5, 3) := by decide +kernel
theorem de_K_interrupt_20 : decode bc_K_interrupt 20 = .ok (.iconst 0, 1) := by decide +kernel
theorem de_K_interrupt_21 : decode bc_K_interrupt 21 = .ok (.ireturn, 1) := by decide +kernel
theorem de_K_interrupt_22 : decode bc_K_interrupt 22 = .ok (.aload_n 0, 1) := by decide +kernel
theorem de_K_interrupt_23 : decode bc_K_interrupt 23 = .ok (.getfield 11, 3) := by decide +kernel
theorem de_K_interrupt_26 : decode bc_K_interrupt 26 = .ok (.iload_n 1, 1) := by decide +kernel
theorem de_K_interrupt_27 : decode bc_K_interrupt 27 = .ok (.aaload, 1) := by decide +kernel
theorem de_K_interrupt_28 : decode bc_K_interrupt 28 = .ok (.astore_n 2, 1) := by decide +kernel
theorem de_K_interrupt_29 : decode bc_K_interrupt 29 = .ok (.aload_n 0, 1) := by decide +kernel
theorem de_K_interrupt_30 : decode bc_K_interrupt 30 = .ok (.aload_n 2, 1) := by decide +kernel
theorem de_K_interrupt_31 : decode bc_K_interrupt 31 = .ok (.invokevirtual 126, 3) := by decide +kernel
theorem de_K_interrupt_34 : decode bc_K_interrupt 34 = .ok (.istore_n 3, 1) := by decide +kernel
theorem de_K_interrupt_35 : decode bc_K_interrupt 35 = .ok (.aload_n 0, 1) := by decide +kernel
theorem de_K_interrupt_36 : decode bc_K_interrupt 36 = .ok (.aload_n 2, 1) := by decide +kernel
theorem de_K_interrupt_37 : decode bc_K_interrupt 37 = .ok (.invokevirtual 130, 3) := by decide +kernel
theorem de_K_interrupt_40 : decode bc_K_interrupt 40 = .ok (.aload_n 2, 1) := by decide +kernel
theorem de_K_interrupt_41 : decode bc_K_interrupt 41 = .ok (.aload_n 2, 1) := by decide +kernel
theorem de_K_interrupt_42 : decode bc_K_interrupt 42 = .ok (.getfield 71, 3) := by decide +kernel
theorem de_K_interrupt_45 : decode bc_K_interrupt 45 = .ok (.putfield 134, 3) := by decide +kernel
theorem de_K_interrupt_48 : decode bc_K_interrupt 48 = .ok (.aload_n 0, 1) := by decide +kernel
theorem de_K_interrupt_49 : decode bc_K_interrupt 49 = .ok (.aload_n 2, 1) := by decide +kernel
theorem de_K_interrupt_50 : decode bc_K_interrupt 50 = .ok (.iconst 1, 1) := by decide +kernel
theorem de_K_interrupt_51 : decode bc_K_interrupt 51 = .ok (.iconst 0, 1) := by decide +kernel
theorem de_K_interrupt_52 : decode bc_K_interrupt 52 = .ok (.invokevirtual 118, 3) := by decide +kernel
theorem de_K_interrupt_55 : decode bc_K_interrupt 55 = .ok (.aload_n 0, 1) := by decide +kernel
theorem de_K_interrupt_56 : decode bc_K_interrupt 56 = .ok (.iload_n 3, 1) := by decide +kernel
theorem de_K_interrupt_57 : decode bc_K_interrupt 57 = .ok (.invokevirtual 107, 3) := by decide +kernel
theorem de_K_interrupt_60 : decode bc_K_interrupt 60 = .ok (.iconst 1, 1) := by decide +kernel
theorem de_K_interrupt_61 : decode bc_K_interrupt 61 = .ok (.ireturn, 1) := by decide +kernel
theorem de_P_isOver_0 : decode bc_P_isOver 0 = .ok (.aload_n 0, 1) := by decide +kernel
theorem de_P_isOver_1 : decode bc_P_isOver 1 = .ok (.getfield 37, 3) := by decide +kernel
theorem de_P_isOver_4 : decode bc_P_isOver 4 = .ok (.bipush 6, 2) := by decide +kernel
theorem de_P_isOver_6 : decode bc_P_isOver 6 = .ok (.if_icmp .eq 12, 3) := by decide +kernel
theorem de_P_isOver_9 : decode bc_P_isOver 9 = .ok (.aload_n 0, 1) := by decide +kernel
theorem de_P_isOver_10 : decode bc_P_isOver 10 = .ok (.getfield 37, 3) := by decide +kernel
theorem de_P_isOver_13 : decode bc_P_isOver 13 = .ok (.bipush 7, 2) := by decide +kernel
theorem de_P_isOver_15 : decode bc_P_isOver 15 = .ok (.if_icmp .ne 7, 3) := by decide +kernel
theorem de_P_isOver_18 : decode bc_P_isOver 18 = .ok (.iconst 1, 1) := by decide +kernel
theorem de_P_isOver_19 : decode bc_P_isOver 19 = .ok (.goto 4, 3) := by decide +kernel
theorem de_P_isOver_22 : decode bc_P_isOver 22 = .ok (.iconst 0, 1) := by decide +kernel
theorem de_P_isOver_23 : decode bc_P_isOver 23 = .ok (.ireturn, 1) := by decide +kernel
theorem de_K_takeBack_0 : decode bc_K_takeBack 0 = .ok (.aload_n 1, 1) := by decide +kernel
theorem de_K_takeBack_1 : decode bc_K_takeBack 1 = .ok (.getfield 176, 3) := by decide +kernel
theorem de_K_takeBack_4 : decode bc_K_takeBack 4 = .ok (.iload_n 2, 1) := by decide +kernel
theorem de_K_takeBack_5 : decode bc_K_takeBack 5 = .ok (.dup2, 1) := by decide +kernel
theorem de_K_takeBack_6 : decode bc_K_takeBack 6 = .ok (.iaload, 1) := by decide +kernel
theorem de_K_takeBack_7 : decode bc_K_takeBack 7 = .ok (.iload_n 3, 1) := by decide +kernel
theorem de_K_takeBack_8 : decode bc_K_takeBack 8 = .ok (.isub, 1) := by decide +kernel
theorem de_K_takeBack_9 : decode bc_K_takeBack 9 = .ok (.iastore, 1) := by decide +kernel
theorem de_K_takeBack_10 : decode bc_K_takeBack 10 = .ok (.aload_n 0, 1) := by decide +kernel
theorem de_K_takeBack_11 : decode bc_K_takeBack 11 = .ok (.getfield 17, 3) := by decide +kernel
theorem de_K_takeBack_14 : decode bc_K_takeBack 14 = .ok (.iload_n 2, 1) := by decide +kernel
theorem de_K_takeBack_15 : decode bc_K_takeBack 15 = .ok (.aaload, 1) := by decide +kernel
theorem de_K_takeBack_16 : decode bc_K_takeBack 16 = .ok (.dup, 1) := by decide +kernel
theorem de_K_takeBack_17 : decode bc_K_takeBack 17 = .ok (.getfield 97, 3) := by decide +kernel
theorem de_K_takeBack_20 : decode bc_K_takeBack 20 = .ok (.iload_n 3, 1) := by decide +kernel
theorem de_K_takeBack_21 : decode bc_K_takeBack 21 = .ok (.isub, 1) := by decide +kernel
theorem de_K_takeBack_22 : decode bc_K_takeBack 22 = .ok (.putfield 97, 3) := by decide +kernel
theorem de_K_takeBack_25 : decode bc_K_takeBack 25 = .ok (.return_, 1) := by decide +kernel
theorem de_K_giveBack_0 : decode bc_K_giveBack 0 = .ok (.aload_n 0, 1) := by decide +kernel
theorem de_K_giveBack_1 : decode bc_K_giveBack 1 = .ok (.aload_n 1, 1) := by decide +kernel
theorem de_K_giveBack_2 : decode bc_K_giveBack 2 = .ok (.iload_n 2, 1) := by decide +kernel
theorem de_K_giveBack_3 : decode bc_K_giveBack 3 = .ok (.iload_n 3, 1) := by decide +kernel
theorem de_K_giveBack_4 : decode bc_K_giveBack 4 = .ok (.aload_n 1, 1) := by decide +kernel
theorem de_K_giveBack_5 : decode bc_K_giveBack 5 = .ok (.getfield 176, 3) := by decide +kernel
theorem de_K_giveBack_8 : decode bc_K_giveBack 8 = .ok (.iload_n 2, 1) := by decide +kernel
theorem de_K_giveBack_9 : decode bc_K_giveBack 9 = .ok (.iaload, 1) := by decide +kernel
theorem de_K_giveBack_10 : decode bc_K_giveBack 10 = .ok (.invokestatic 282, 3) := by decide +kernel
theorem de_K_giveBack_13 : decode bc_K_giveBack 13 = .ok (.invokevirtual 279, 3) := by decide +kernel
theorem de_K_giveBack_16 : decode bc_K_giveBack 16 = .ok (.aload_n 0, 1) := by decide +kernel
theorem de_K_giveBack_17 : decode bc_K_giveBack 17 = .ok (.iload_n 2, 1) := by decide +kernel
theorem de_K_giveBack_18 : decode bc_K_giveBack 18 = .ok (.invokevirtual 107, 3) := by decide +kernel
theorem de_K_giveBack_21 : decode bc_K_giveBack 21 = .ok (.return_, 1) := by decide +kernel
theorem de_K_kill_0 : decode bc_K_kill 0 = .ok (.aload_n 0, 1) := by decide +kernel
theorem de_K_kill_1 : decode bc_K_kill 1 = .ok (.iload_n 1, 1) := by decide +kernel
theorem de_K_kill_2 : decode bc_K_kill 2 = .ok (.invokevirtual 77, 3) := by decide +kernel
theorem de_K_kill_5 : decode bc_K_kill 5 = .ok (.ifCond .eq 15, 3) := by decide +kernel
theorem de_K_kill_8 : decode bc_K_kill 8 = .ok (.aload_n 0, 1) := by decide +kernel
theorem de_K_kill_9 : decode bc_K_kill 9 = .ok (.getfield 11, 3) := by decide +kernel
theorem de_K_kill_12 : decode bc_K_kill 12 = .ok (.iload_n 1, 1) := by decide +kernel
theorem de_K_kill_13 : decode bc_K_kill 13 = .ok (.aaload, 1) := by decide +kernel
theorem de_K_kill_14 : decode bc_K_kill 14 = .ok (.invokevirtual 137, 3) := by decide +kernel
theorem de_K_kill_17 : decode bc_K_kill 17 = .ok (.ifCond .eq 5, 3) := by decide +kernel
theorem de_K_kill_20 : decode bc_K_kill 20 = .ok (.iconst 0, 1) := by decide +kernel
theorem de_K_kill_21 : decode bc_K_kill 21 = .ok (.ireturn, 1) := by decide +kernel
theorem de_K_kill_22 : decode bc_K_kill 22 = .ok (.aload_n 0, 1) := by decide +kernel
theorem de_K_kill_23 : decode bc_K_kill 23 = .ok (.getfield 11, 3) := by decide +kernel
theorem de_K_kill_26 : decode bc_K_kill 26 = .ok (.iload_n 1, 1) := by decide +kernel
theorem de_K_kill_27 : decode bc_K_kill 27 = .ok (.aaload, 1) := by decide +kernel
theorem de_K_kill_28 : decode bc_K_kill 28 = .ok (.astore_n 2, 1) := by decide +kernel
theorem de_K_kill_29 : decode bc_K_kill 29 = .ok (.aload_n 0, 1) := by decide +kernel
theorem de_K_kill_30 : decode bc_K_kill 30 = .ok (.aload_n 2, 1) := by decide +kernel
theorem de_K_kill_31 : decode bc_K_kill 31 = .ok (.invokevirtual 126, 3) := by decide +kernel
theorem de_K_kill_34 : decode bc_K_kill 34 = .ok (.istore_n 3, 1) := by decide +kernel
theorem de_K_kill_35 : decode bc_K_kill 35 = .ok (.aload_n 0, 1) := by decide +kernel
theorem de_K_kill_36 : decode bc_K_kill 36 = .ok (.aload_n 2, 1) := by decide +kernel
theorem de_K_kill_37 : decode bc_K_kill 37 = .ok (.invokevirtual 130, 3) := by decide +kernel
theorem de_K_kill_40 : decode bc_K_kill 40 = .ok (.aload_n 2, 1) := by decide +kernel
theorem de_K_kill_41 : decode bc_K_kill 41 = .ok (.bipush 7, 2) := by decide +kernel
theorem de_K_kill_43 : decode bc_K_kill 43 = .ok (.putfield 84, 3) := by decide +kernel
theorem de_K_kill_46 : decode bc_K_kill 46 = .ok (.aload_n 2, 1) := by decide +kernel
theorem de_K_kill_47 : decode bc_K_kill 47 = .ok (.getfield 134, 3) := by decide +kernel
theorem de_K_kill_50 : decode bc_K_kill 50 = .ok (.istore 4, 2) := by decide +kernel
theorem de_K_kill_52 : decode bc_K_kill 52 = .ok (.iload 4, 2) := by decide +kernel
theorem de_K_kill_54 : decode bc_K_kill 54 = .ok (.aload_n 2, 1) := by decide +kernel
theorem de_K_kill_55 : decode bc_K_kill 55 = .ok (.getfield 87, 3) := by decide +kernel
theorem de_K_kill_58 : decode bc_K_kill 58 = .ok (.if_icmp .ge 39, 3) := by decide +kernel
theorem de_K_kill_61 : decode bc_K_kill 61 = .ok (.aload_n 2, 1) := by decide +kernel
theorem de_K_kill_62 : decode bc_K_kill 62 = .ok (.getfield 140, 3) := by decide +kernel
theorem de_K_kill_65 : decode bc_K_kill 65 = .ok (.iload 4, 2) := by decide +kernel
theorem de_K_kill_67 : decode bc_K_kill 67 = .ok (.iaload, 1) := by decide +kernel
theorem de_K_kill_68 : decode bc_K_kill 68 = .ok (.iconst 3, 1) := by decide +kernel
theorem de_K_kill_69 : decode bc_K_kill 69 = .ok (.if_icmp .ne 22, 3) := by decide +kernel
theorem de_K_kill_72 : decode bc_K_kill 72 = .ok (.aload_n 0, 1) := by decide +kernel
theorem de_K_kill_73 : decode bc_K_kill 73 = .ok (.aload_n 2, 1) := by decide +kernel
theorem de_K_kill_74 : decode bc_K_kill 74 = .ok (.aload_n 2, 1) := by decide +kernel
theorem de_K_kill_75 : decode bc_K_kill 75 = .ok (.getfield 143, 3) := by decide +kernel
theorem de_K_kill_78 : decode bc_K_kill 78 = .ok (.iload 4, 2) := by decide +kernel
theorem de_K_kill_80 : decode bc_K_kill 80 = .ok (.iaload, 1) := by decide +kernel
theorem de_K_kill_81 : decode bc_K_kill 81 = .ok (.aload_n 2, 1) := by decide +kernel
theorem de_K_kill_82 : decode bc_K_kill 82 = .ok (.getfield 146, 3) := by decide +kernel
theorem de_K_kill_85 : decode bc_K_kill 85 = .ok (.iload 4, 2) := by decide +kernel
theorem de_K_kill_87 : decode bc_K_kill 87 = .ok (.iaload, 1) := by decide +kernel
theorem de_K_kill_88 : decode bc_K_kill 88 = .ok (.invokevirtual 149, 3) := by decide +kernel
theorem de_K_kill_91 : decode bc_K_kill 91 = .ok (.iinc 4 1, 3) := by decide +kernel
theorem de_K_kill_94 : decode bc_K_kill 94 = .ok (.goto (-42), 3) := by decide +kernel
theorem de_K_kill_97 : decode bc_K_kill 97 = .ok (.aload_n 0, 1) := by decide +kernel
theorem de_K_kill_98 : decode bc_K_kill 98 = .ok (.iload_n 3, 1) := by decide +kernel
theorem de_K_kill_99 : decode bc_K_kill 99 = .ok (.invokevirtual 107, 3) := by decide +kernel
theorem de_K_kill_102 : decode bc_K_kill 102 = .ok (.iconst 1, 1) := by decide +kernel
theorem de_K_kill_103 : decode bc_K_kill 103 = .ok (.ireturn, 1) := by decide +kernel
theorem de_P_isBefore_0 : decode bc_P_isBefore 0 = .ok (.aload_n 0, 1) := by decide +kernel
theorem de_P_isBefore_1 : decode bc_P_isBefore 1 = .ok (.getfield 50, 3) := by decide +kernel
theorem de_P_isBefore_4 : decode bc_P_isBefore 4 = .ok (.aload_n 1, 1) := by decide +kernel
theorem de_P_isBefore_5 : decode bc_P_isBefore 5 = .ok (.getfield 50, 3) := by decide +kernel
theorem de_P_isBefore_8 : decode bc_P_isBefore 8 = .ok (.lcmp, 1) := by decide +kernel
theorem de_P_isBefore_9 : decode bc_P_isBefore 9 = .ok (.ifCond .eq 21, 3) := by decide +kernel
theorem de_P_isBefore_12 : decode bc_P_isBefore 12 = .ok (.aload_n 0, 1) := by decide +kernel
theorem de_P_isBefore_13 : decode bc_P_isBefore 13 = .ok (.getfield 50, 3) := by decide +kernel
theorem de_P_isBefore_16 : decode bc_P_isBefore 16 = .ok (.aload_n 1, 1) := by decide +kernel
theorem de_P_isBefore_17 : decode bc_P_isBefore 17 = .ok (.getfield 50, 3) := by decide +kernel
theorem de_P_isBefore_20 : decode bc_P_isBefore 20 = .ok (.lcmp, 1) := by decide +kernel
theorem de_P_isBefore_21 : decode bc_P_isBefore 21 = .ok (.ifCond .ge 7, 3) := by decide +kernel
theorem de_P_isBefore_24 : decode bc_P_isBefore 24 = .ok (.iconst 1, 1) := by decide +kernel
theorem de_P_isBefore_25 : decode bc_P_isBefore 25 = .ok (.goto 4, 3) := by decide +kernel
theorem de_P_isBefore_28 : decode bc_P_isBefore 28 = .ok (.iconst 0, 1) := by decide +kernel
theorem de_P_isBefore_29 : decode bc_P_isBefore 29 = .ok (.ireturn, 1) := by decide +kernel
theorem de_P_isBefore_30 : decode bc_P_isBefore 30 = .ok (.aload_n 0, 1) := by decide +kernel
theorem de_P_isBefore_31 : decode bc_P_isBefore 31 = .ok (.getfield 28, 3) := by decide +kernel
theorem de_P_isBefore_34 : decode bc_P_isBefore 34 = .ok (.aload_n 1, 1) := by decide +kernel
theorem de_P_isBefore_35 : decode bc_P_isBefore 35 = .ok (.getfield 28, 3) := by decide +kernel
theorem de_P_isBefore_38 : decode bc_P_isBefore 38 = .ok (.if_icmp .eq 20, 3) := by decide +kernel
theorem de_P_isBefore_41 : decode bc_P_isBefore 41 = .ok (.aload_n 0, 1) := by decide +kernel
theorem de_P_isBefore_42 : decode bc_P_isBefore 42 = .ok (.getfield 28, 3) := by decide +kernel
theorem de_P_isBefore_45 : decode bc_P_isBefore 45 = .ok (.aload_n 1, 1) := by decide +kernel
theorem de_P_isBefore_46 : decode bc_P_isBefore 46 = .ok (.getfield 28, 3) := by decide +kernel
theorem de_P_isBefore_49 : decode bc_P_isBefore 49 = .ok (.if_icmp .ge 7, 3) := by decide +kernel
theorem de_P_isBefore_52 : decode bc_P_isBefore 52 = .ok (.iconst 1, 1) := by decide +kernel
theorem de_P_isBefore_53 : decode bc_P_isBefore 53 = .ok (.goto 4, 3) := by decide +kernel
theorem de_P_isBefore_56 : decode bc_P_isBefore 56 = .ok (.iconst 0, 1) := by decide +kernel
theorem de_P_isBefore_57 : decode bc_P_isBefore 57 = .ok (.ireturn, 1) := by decide +kernel
theorem de_P_isBefore_58 : decode bc_P_isBefore 58 = .ok (.aload_n 0, 1) := by decide +kernel
theorem de_P_isBefore_59 : decode bc_P_isBefore 59 = .ok (.getfield 54, 3) := by decide +kernel
theorem de_P_isBefore_62 : decode bc_P_isBefore 62 = .ok (.aload_n 1, 1) := by decide +kernel
theorem de_P_isBefore_63 : decode bc_P_isBefore 63 = .ok (.getfield 54, 3) := by decide +kernel
theorem de_P_isBefore_66 : decode bc_P_isBefore 66 = .ok (.lcmp, 1) := by decide +kernel
theorem de_P_isBefore_67 : decode bc_P_isBefore 67 = .ok (.ifCond .ge 7, 3) := by decide +kernel
theorem de_P_isBefore_70 : decode bc_P_isBefore 70 = .ok (.iconst 1, 1) := by decide +kernel
theorem de_P_isBefore_71 : decode bc_P_isBefore 71 = .ok (.goto 4, 3) := by decide +kernel
theorem de_P_isBefore_74 : decode bc_P_isBefore 74 = .ok (.iconst 0, 1) := by decide +kernel
theorem de_P_isBefore_75 : decode bc_P_isBefore 75 = .ok (.ireturn, 1) := by decide +kernel
theorem de_K_firstEntry_0 : decode bc_K_firstEntry 0 = .ok (.iconst (-1), 1) := by decide +kernel
theorem de_K_firstEntry_1 : decode bc_K_firstEntry 1 = .ok (.istore_n 1, 1) := by decide +kernel
theorem de_K_firstEntry_2 : decode bc_K_firstEntry 2 = .ok (.iconst 0, 1) := by decide +kernel
theorem de_K_firstEntry_3 : decode bc_K_firstEntry 3 = .ok (.istore_n 2, 1) := by decide +kernel
theorem de_K_firstEntry_4 : decode bc_K_firstEntry 4 = .ok (.iload_n 2, 1) := by decide +kernel
theorem de_K_firstEntry_5 : decode bc_K_firstEntry 5 = .ok (.aload_n 0, 1) := by decide +kernel
theorem de_K_firstEntry_6 : decode bc_K_firstEntry 6 = .ok (.getfield 45, 3) := by decide +kernel
theorem de_K_firstEntry_9 : decode bc_K_firstEntry 9 = .ok (.if_icmp .ge 46, 3) := by decide +kernel
theorem de_K_firstEntry_12 : decode bc_K_firstEntry 12 = .ok (.aload_n 0, 1) := by decide +kernel
theorem de_K_firstEntry_13 : decode bc_K_firstEntry 13 = .ok (.getfield 11, 3) := by decide +kernel
theorem de_K_firstEntry_16 : decode bc_K_firstEntry 16 = .ok (.iload_n 2, 1) := by decide +kernel
theorem de_K_firstEntry_17 : decode bc_K_firstEntry 17 = .ok (.aaload, 1) := by decide +kernel
theorem de_K_firstEntry_18 : decode bc_K_firstEntry 18 = .ok (.getfield 198, 3) := by decide +kernel
theorem de_K_firstEntry_21 : decode bc_K_firstEntry 21 = .ok (.ifCond .eq 28, 3) := by decide +kernel
theorem de_K_firstEntry_24 : decode bc_K_firstEntry 24 = .ok (.iload_n 1, 1) := by decide +kernel
theorem de_K_firstEntry_25 : decode bc_K_firstEntry 25 = .ok (.iconst (-1), 1) := by decide +kernel
theorem de_K_firstEntry_26 : decode bc_K_firstEntry 26 = .ok (.if_icmp .eq 21, 3) := by decide +kernel
theorem de_K_firstEntry_29 : decode bc_K_firstEntry 29 = .ok (.aload_n 0, 1) := by decide +kernel
theorem de_K_firstEntry_30 : decode bc_K_firstEntry 30 = .ok (.getfield 11, 3) := by decide +kernel
theorem de_K_firstEntry_33 : decode bc_K_firstEntry 33 = .ok (.iload_n 2, 1) := by decide +kernel
theorem de_K_firstEntry_34 : decode bc_K_firstEntry 34 = .ok (.aaload, 1) := by decide +kernel
theorem de_K_firstEntry_35 : decode bc_K_firstEntry 35 = .ok (.aload_n 0, 1) := by decide +kernel
theorem de_K_firstEntry_36 : decode bc_K_firstEntry 36 = .ok (.getfield 11, 3) := by decide +kernel
theorem de_K_firstEntry_39 : decode bc_K_firstEntry 39 = .ok (.iload_n 1, 1) := by decide +kernel
theorem de_K_firstEntry_40 : decode bc_K_firstEntry 40 = .ok (.aaload, 1) := by decide +kernel
theorem de_K_firstEntry_41 : decode bc_K_firstEntry 41 = .ok (.invokevirtual 204, 3) := by decide +kernel
theorem de_K_firstEntry_44 : decode bc_K_firstEntry 44 = .ok (.ifCond .eq 5, 3) := by decide +kernel
theorem de_K_firstEntry_47 : decode bc_K_firstEntry 47 = .ok (.iload_n 2, 1) := by decide +kernel
theorem de_K_firstEntry_48 : decode bc_K_firstEntry 48 = .ok (.istore_n 1, 1) := by decide +kernel
theorem de_K_firstEntry_49 : decode bc_K_firstEntry 49 = .ok (.iinc 2 1, 3) := by decide +kernel
theorem de_K_firstEntry_52 : decode bc_K_firstEntry 52 = .ok (.goto (-48), 3) := by decide +kernel
theorem de_K_firstEntry_55 : decode bc_K_firstEntry 55 = .ok (.iload_n 1, 1) := by decide +kernel
theorem de_K_firstEntry_56 : decode bc_K_firstEntry 56 = .ok (.ireturn, 1) := by decide +kernel
theorem de_K_moveClock_0 : decode bc_K_moveClock 0 = .ok (.iconst 0, 1) := by decide +kernel
theorem de_K_moveClock_1 : decode bc_K_moveClock 1 = .ok (.istore_n 3, 1) := by decide +kernel
theorem de_K_moveClock_2 : decode bc_K_moveClock 2 = .ok (.iload_n 3, 1) := by decide +kernel
theorem de_K_moveClock_3 : decode bc_K_moveClock 3 = .ok (.iconst 4, 1) := by decide +kernel
theorem de_K_moveClock_4 : decode bc_K_moveClock 4 = .ok (.if_icmp .ge 40, 3) := by decide +kernel
theorem de_K_moveClock_7 : decode bc_K_moveClock 7 = .ok (.aload_n 0, 1) := by decide +kernel
theorem de_K_moveClock_8 : decode bc_K_moveClock 8 = .ok (.getfield 17, 3) := by decide +kernel
theorem de_K_moveClock_11 : decode bc_K_moveClock 11 = .ok (.iload_n 3, 1) := by decide +kernel
theorem de_K_moveClock_12 : decode bc_K_moveClock 12 = .ok (.aaload, 1) := by decide +kernel
theorem de_K_moveClock_13 : decode bc_K_moveClock 13 = .ok (.dup, 1) := by decide +kernel
theorem de_K_moveClock_14 : decode bc_K_moveClock 14 = .ok (.getfield 188, 3) := by decide +kernel
theorem de_K_moveClock_17 : decode bc_K_moveClock 17 = .ok (.aload_n 0, 1) := by decide +kernel
theorem de_K_moveClock_18 : decode bc_K_moveClock 18 = .ok (.getfield 17, 3) := by decide +kernel
theorem de_K_moveClock_21 : decode bc_K_moveClock 21 = .ok (.iload_n 3, 1) := by decide +kernel
theorem de_K_moveClock_22 : decode bc_K_moveClock 22 = .ok (.aaload, 1) := by decide +kernel
theorem de_K_moveClock_23 : decode bc_K_moveClock 23 = .ok (.getfield 97, 3) := by decide +kernel
theorem de_K_moveClock_26 : decode bc_K_moveClock 26 = .ok (.i2l, 1) := by decide +kernel
theorem de_K_moveClock_27 : decode bc_K_moveClock 27 = .ok (.lload_n 1, 1) := by decide +kernel
