theorem de_L_init_0 : decode bc_L_init 0 = .ok (.aload_n 0, 1) := by decide +kernel
theorem de_L_init_1 : decode bc_L_init 1 = .ok (.invokespecial 3, 3) := by decide +kernel
theorem de_L_init_4 : decode bc_L_init 4 = .ok (.aload_n 0, 1) := by decide +kernel
theorem de_L_init_5 : decode bc_L_init 5 = .ok (.bipush 12, 2) := by decide +kernel
theorem de_L_init_7 : decode bc_L_init 7 = .ok (.newarray .int, 2) := by decide +kernel
theorem de_L_init_9 : decode bc_L_init 9 = .ok (.putfield 9, 3) := by decide +kernel
theorem de_L_init_12 : decode bc_L_init 12 = .ok (.aload_n 0, 1) := by decide +kernel
theorem de_L_init_13 : decode bc_L_init 13 = .ok (.iconst 0, 1) := by decide +kernel
theorem de_L_init_14 : decode bc_L_init 14 = .ok (.putfield 15, 3) := by decide +kernel
theorem de_L_init_17 : decode bc_L_init 17 = .ok (.return_, 1) := by decide +kernel
theorem de_C_init_0 : decode bc_C_init 0 = .ok (.aload_n 0, 1) := by decide +kernel
theorem de_C_init_1 : decode bc_C_init 1 = .ok (.invokespecial 3, 3) := by decide +kernel
theorem de_C_init_4 : decode bc_C_init 4 = .ok (.aload_n 0, 1) := by decide +kernel
theorem de_C_init_5 : decode bc_C_init 5 = .ok (.bipush 64, 2) := by decide +kernel
theorem de_C_init_7 : decode bc_C_init 7 = .ok (.newarray .int, 2) := by decide +kernel
theorem de_C_init_9 : decode bc_C_init 9 = .ok (.putfield 9, 3) := by decide +kernel
theorem de_C_init_12 : decode bc_C_init 12 = .ok (.aload_n 0, 1) := by decide +kernel
theorem de_C_init_13 : decode bc_C_init 13 = .ok (.iconst 0, 1) := by decide +kernel
theorem de_C_init_14 : decode bc_C_init 14 = .ok (.putfield 15, 3) := by decide +kernel
theorem de_C_init_17 : decode bc_C_init 17 = .ok (.aload_n 0, 1) := by decide +kernel
theorem de_C_init_18 : decode bc_C_init 18 = .ok (.iconst 0, 1) := by decide +kernel
theorem de_C_init_19 : decode bc_C_init 19 = .ok (.putfield 19, 3) := by decide +kernel
theorem de_C_init_22 : decode bc_C_init 22 = .ok (.return_, 1) := by decide +kernel
theorem de_P_init_0 : decode bc_P_init 0 = .ok (.aload_n 0, 1) := by decide +kernel
theorem de_P_init_1 : decode bc_P_init 1 = .ok (.invokespecial 3, 3) := by decide +kernel
theorem de_P_init_4 : decode bc_P_init 4 = .ok (.aload_n 0, 1) := by decide +kernel
theorem de_P_init_5 : decode bc_P_init 5 = .ok (.bipush 10, 2) := by decide +kernel
theorem de_P_init_7 : decode bc_P_init 7 = .ok (.newarray .int, 2) := by decide +kernel
theorem de_P_init_9 : decode bc_P_init 9 = .ok (.putfield 9, 3) := by decide +kernel
theorem de_P_init_12 : decode bc_P_init 12 = .ok (.aload_n 0, 1) := by decide +kernel
theorem de_P_init_13 : decode bc_P_init 13 = .ok (.bipush 10, 2) := by decide +kernel
theorem de_P_init_15 : decode bc_P_init 15 = .ok (.newarray .int, 2) := by decide +kernel
theorem de_P_init_17 : decode bc_P_init 17 = .ok (.putfield 15, 3) := by decide +kernel
theorem de_P_init_20 : decode bc_P_init 20 = .ok (.aload_n 0, 1) := by decide +kernel
theorem de_P_init_21 : decode bc_P_init 21 = .ok (.bipush 10, 2) := by decide +kernel
theorem de_P_init_23 : decode bc_P_init 23 = .ok (.newarray .int, 2) := by decide +kernel
theorem de_P_init_25 : decode bc_P_init 25 = .ok (.putfield 18, 3) := by decide +kernel
theorem de_P_init_28 : decode bc_P_init 28 = .ok (.aload_n 0, 1) := by decide +kernel
theorem de_P_init_29 : decode bc_P_init 29 = .ok (.iconst 4, 1) := by decide +kernel
theorem de_P_init_30 : decode bc_P_init 30 = .ok (.newarray .int, 2) := by decide +kernel
theorem de_P_init_32 : decode bc_P_init 32 = .ok (.putfield 21, 3) := by decide +kernel
theorem de_P_init_35 : decode bc_P_init 35 = .ok (.aload_n 0, 1) := by decide +kernel
theorem de_P_init_36 : decode bc_P_init 36 = .ok (.iconst 0, 1) := by decide +kernel
theorem de_P_init_37 : decode bc_P_init 37 = .ok (.putfield 24, 3) := by decide +kernel
theorem de_P_init_40 : decode bc_P_init 40 = .ok (.aload_n 0, 1) := by decide +kernel
theorem de_P_init_41 : decode bc_P_init 41 = .ok (.iconst 0, 1) := by decide +kernel
theorem de_P_init_42 : decode bc_P_init 42 = .ok (.putfield 28, 3) := by decide +kernel
theorem de_P_init_45 : decode bc_P_init 45 = .ok (.aload_n 0, 1) := by decide +kernel
theorem de_P_init_46 : decode bc_P_init 46 = .ok (.iconst 1, 1) := by decide +kernel
theorem de_P_init_47 : decode bc_P_init 47 = .ok (.putfield 31, 3) := by decide +kernel
theorem de_P_init_50 : decode bc_P_init 50 = .ok (.aload_n 0, 1) := by decide +kernel
theorem de_P_init_51 : decode bc_P_init 51 = .ok (.iconst 0, 1) := by decide +kernel
theorem de_P_init_52 : decode bc_P_init 52 = .ok (.putfield 34, 3) := by decide +kernel
theorem de_P_init_55 : decode bc_P_init 55 = .ok (.aload_n 0, 1) := by decide +kernel
theorem de_P_init_56 : decode bc_P_init 56 = .ok (.iconst 0, 1) := by decide +kernel
theorem de_P_init_57 : decode bc_P_init 57 = .ok (.putfield 37, 3) := by decide +kernel
theorem de_P_init_60 : decode bc_P_init 60 = .ok (.aload_n 0, 1) := by decide +kernel
theorem de_P_init_61 : decode bc_P_init 61 = .ok (.iconst 0, 1) := by decide +kernel
theorem de_P_init_62 : decode bc_P_init 62 = .ok (.putfield 40, 3) := by decide +kernel
theorem de_P_init_65 : decode bc_P_init 65 = .ok (.aload_n 0, 1) := by decide +kernel
theorem de_P_init_66 : decode bc_P_init 66 = .ok (.iconst 0, 1) := by decide +kernel
theorem de_P_init_67 : decode bc_P_init 67 = .ok (.putfield 43, 3) := by decide +kernel
theorem de_P_init_70 : decode bc_P_init 70 = .ok (.aload_n 0, 1) := by decide +kernel
theorem de_P_init_71 : decode bc_P_init 71 = .ok (.iconst 0, 1) := by decide +kernel
theorem de_P_init_72 : decode bc_P_init 72 = .ok (.putfield 46, 3) := by decide +kernel
theorem de_P_init_75 : decode bc_P_init 75 = .ok (.aload_n 0, 1) := by decide +kernel
theorem de_P_init_76 : decode bc_P_init 76 = .ok (.lconst 0, 1) := by decide +kernel
theorem de_P_init_77 : decode bc_P_init 77 = .ok (.putfield 50, 3) := by decide +kernel
theorem de_P_init_80 : decode bc_P_init 80 = .ok (.aload_n 0, 1) := by decide +kernel
theorem de_P_init_81 : decode bc_P_init 81 = .ok (.lconst 0, 1) := by decide +kernel
theorem de_P_init_82 : decode bc_P_init 82 = .ok (.putfield 54, 3) := by decide +kernel
theorem de_P_init_85 : decode bc_P_init 85 = .ok (.aload_n 0, 1) := by decide +kernel
theorem de_P_init_86 : decode bc_P_init 86 = .ok (.lconst 0, 1) := by decide +kernel
theorem de_P_init_87 : decode bc_P_init 87 = .ok (.putfield 57, 3) := by decide +kernel
theorem de_P_init_90 : decode bc_P_init 90 = .ok (.aload_n 0, 1) := by decide +kernel
theorem de_P_init_91 : decode bc_P_init 91 = .ok (.iload_n 1, 1) := by decide +kernel
theorem de_P_init_92 : decode bc_P_init 92 = .ok (.putfield 60, 3) := by decide +kernel
theorem de_P_init_95 : decode bc_P_init 95 = .ok (.return_, 1) := by decide +kernel
theorem de_E_init_0 : decode bc_E_init 0 = .ok (.aload_n 0, 1) := by decide +kernel
theorem de_E_init_1 : decode bc_E_init 1 = .ok (.invokespecial 1, 3) := by decide +kernel
theorem de_E_init_4 : decode bc_E_init 4 = .ok (.aload_n 0, 1) := by decide +kernel
theorem de_E_init_5 : decode bc_E_init 5 = .ok (.new 7, 3) := by decide +kernel
theorem de_E_init_8 : decode bc_E_init 8 = .ok (.dup, 1) := by decide +kernel
theorem de_E_init_9 : decode bc_E_init 9 = .ok (.invokespecial 9, 3) := by decide +kernel
theorem de_E_init_12 : decode bc_E_init 12 = .ok (.putfield 10, 3) := by decide +kernel
theorem de_E_init_15 : decode bc_E_init 15 = .ok (.aload_n 0, 1) := by decide +kernel
theorem de_E_init_16 : decode bc_E_init 16 = .ok (.iconst 1, 1) := by decide +kernel
theorem de_E_init_17 : decode bc_E_init 17 = .ok (.putfield 16, 3) := by decide +kernel
theorem de_E_init_20 : decode bc_E_init 20 = .ok (.aload_n 0, 1) := by decide +kernel
theorem de_E_init_21 : decode bc_E_init 21 = .ok (.iconst 0, 1) := by decide +kernel
theorem de_E_init_22 : decode bc_E_init 22 = .ok (.putfield 20, 3) := by decide +kernel
theorem de_E_init_25 : decode bc_E_init 25 = .ok (.aload_n 0, 1) := by decide +kernel
theorem de_E_init_26 : decode bc_E_init 26 = .ok (.iconst 0, 1) := by decide +kernel
theorem de_E_init_27 : decode bc_E_init 27 = .ok (.putfield 23, 3) := by decide +kernel
theorem de_E_init_30 : decode bc_E_init 30 = .ok (.aload_n 0, 1) := by decide +kernel
theorem de_E_init_31 : decode bc_E_init 31 = .ok (.lconst 0, 1) := by decide +kernel
theorem de_E_init_32 : decode bc_E_init 32 = .ok (.putfield 27, 3) := by decide +kernel
theorem de_E_init_35 : decode bc_E_init 35 = .ok (.aload_n 0, 1) := by decide +kernel
theorem de_E_init_36 : decode bc_E_init 36 = .ok (.lconst 0, 1) := by decide +kernel
theorem de_E_init_37 : decode bc_E_init 37 = .ok (.putfield 31, 3) := by decide +kernel
theorem de_E_init_40 : decode bc_E_init 40 = .ok (.return_, 1) := by decide +kernel
theorem de_T_init_0 : decode bc_T_init 0 = .ok (.aload_n 0, 1) := by decide +kernel
theorem de_T_init_1 : decode bc_T_init 1 = .ok (.invokespecial 3, 3) := by decide +kernel
theorem de_T_init_4 : decode bc_T_init 4 = .ok (.aload_n 0, 1) := by decide +kernel
theorem de_T_init_5 : decode bc_T_init 5 = .ok (.sipush 1000, 3) := by decide +kernel
theorem de_T_init_8 : decode bc_T_init 8 = .ok (.putfield 9, 3) := by decide +kernel
theorem de_T_init_11 : decode bc_T_init 11 = .ok (.aload_n 0, 1) := by decide +kernel
theorem de_T_init_12 : decode bc_T_init 12 = .ok (.iconst 0, 1) := by decide +kernel
theorem de_T_init_13 : decode bc_T_init 13 = .ok (.putfield 15, 3) := by decide +kernel
theorem de_T_init_16 : decode bc_T_init 16 = .ok (.return_, 1) := by decide +kernel
theorem de_K_init_0 : decode bc_K_init 0 = .ok (.aload_n 0, 1) := by decide +kernel
theorem de_K_init_1 : decode bc_K_init 1 = .ok (.invokespecial 3, 3) := by decide +kernel
theorem de_K_init_4 : decode bc_K_init 4 = .ok (.aload_n 0, 1) := by decide +kernel
theorem de_K_init_5 : decode bc_K_init 5 = .ok (.bipush 12, 2) := by decide +kernel
theorem de_K_init_7 : decode bc_K_init 7 = .ok (.anewarray 9, 3) := by decide +kernel
theorem de_K_init_10 : decode bc_K_init 10 = .ok (.putfield 11, 3) := by decide +kernel
theorem de_K_init_13 : decode bc_K_init 13 = .ok (.aload_n 0, 1) := by decide +kernel
theorem de_K_init_14 : decode bc_K_init 14 = .ok (.iconst 4, 1) := by decide +kernel
theorem de_K_init_15 : decode bc_K_init 15 = .ok (.anewarray 15, 3) := by decide +kernel
theorem de_K_init_18 : decode bc_K_init 18 = .ok (.putfield 17, 3) := by decide +kernel
theorem de_K_init_21 : decode bc_K_init 21 = .ok (.aload_n 0, 1) := by decide +kernel
theorem de_K_init_22 : decode bc_K_init 22 = .ok (.iconst 4, 1) := by decide +kernel
theorem de_K_init_23 : decode bc_K_init 23 = .ok (.anewarray 21, 3) := by decide +kernel
theorem de_K_init_26 : decode bc_K_init 26 = .ok (.putfield 23, 3) := by decide +kernel
theorem de_K_init_29 : decode bc_K_init 29 = .ok (.aload_n 0, 1) := by decide +kernel
theorem de_K_init_30 : decode bc_K_init 30 = .ok (.new 27, 3) := by decide +kernel
theorem de_K_init_33 : decode bc_K_init 33 = .ok (.dup, 1) := by decide +kernel
theorem de_K_init_34 : decode bc_K_init 34 = .ok (.invokespecial 29, 3) := by decide +kernel
theorem de_K_init_37 : decode bc_K_init 37 = .ok (.putfield 30, 3) := by decide +kernel
theorem de_K_init_40 : decode bc_K_init 40 = .ok (.aload_n 0, 1) := by decide +kernel
theorem de_K_init_41 : decode bc_K_init 41 = .ok (.new 34, 3) := by decide +kernel
theorem de_K_init_44 : decode bc_K_init 44 = .ok (.dup, 1) := by decide +kernel
theorem de_K_init_45 : decode bc_K_init 45 = .ok (.invokespecial 36, 3) := by decide +kernel
theorem de_K_init_48 : decode bc_K_init 48 = .ok (.putfield 37, 3) := by decide +kernel
theorem de_K_init_51 : decode bc_K_init 51 = .ok (.aload_n 0, 1) := by decide +kernel
theorem de_K_init_52 : decode bc_K_init 52 = .ok (.bipush 12, 2) := by decide +kernel
theorem de_K_init_54 : decode bc_K_init 54 = .ok (.newarray .int, 2) := by decide +kernel
theorem de_K_init_56 : decode bc_K_init 56 = .ok (.putfield 41, 3) := by decide +kernel
theorem de_K_init_59 : decode bc_K_init 59 = .ok (.aload_n 0, 1) := by decide +kernel
theorem de_K_init_60 : decode bc_K_init 60 = .ok (.iconst 0, 1) := by decide +kernel
theorem de_K_init_61 : decode bc_K_init 61 = .ok (.putfield 45, 3) := by decide +kernel
theorem de_K_init_64 : decode bc_K_init 64 = .ok (.aload_n 0, 1) := by decide +kernel
theorem de_K_init_65 : decode bc_K_init 65 = .ok (.lconst 0, 1) := by decide +kernel
theorem de_K_init_66 : decode bc_K_init 66 = .ok (.putfield 49, 3) := by decide +kernel
theorem de_K_init_69 : decode bc_K_init 69 = .ok (.aload_n 0, 1) := by decide +kernel
theorem de_K_init_70 : decode bc_K_init 70 = .ok (.lconst 0, 1) := by decide +kernel
theorem de_K_init_71 : decode bc_K_init 71 = .ok (.putfield 53, 3) := by decide +kernel
theorem de_K_init_74 : decode bc_K_init 74 = .ok (.iconst 0, 1) := by decide +kernel
theorem de_K_init_75 : decode bc_K_init 75 = .ok (.istore_n 1, 1) := by decide +kernel
theorem de_K_init_76 : decode bc_K_init 76 = .ok (.iload_n 1, 1) := by decide +kernel
theorem de_K_init_77 : decode bc_K_init 77 = .ok (.bipush 12, 2) := by decide +kernel
theorem de_K_init_79 : decode bc_K_init 79 = .ok (.if_icmp .ge 23, 3) := by decide +kernel
theorem de_K_init_82 : decode bc_K_init 82 = .ok (.aload_n 0, 1) := by decide +kernel
theorem de_K_init_83 : decode bc_K_init 83 = .ok (.getfield 11, 3) := by decide +kernel
theorem de_K_init_86 : decode bc_K_init 86 = .ok (.iload_n 1, 1) := by decide +kernel
theorem de_K_init_87 : decode bc_K_init 87 = .ok (.new 9, 3) := by decide +kernel
theorem de_K_init_90 : decode bc_K_init 90 = .ok (.dup, 1) := by decide +kernel
theorem de_K_init_91 : decode bc_K_init 91 = .ok (.iload_n 1, 1) := by decide +kernel
theorem de_K_init_92 : decode bc_K_init 92 = .ok (.invokespecial 56, 3) := by decide +kernel
theorem de_K_init_95 : decode bc_K_init 95 = .ok (.aastore, 1) := by decide +kernel
theorem de_K_init_96 : decode bc_K_init 96 = .ok (.iinc 1 1, 3) := by decide +kernel
theorem de_K_init_99 : decode bc_K_init 99 = .ok (.goto (-23), 3) := by decide +kernel
theorem de_K_init_102 : decode bc_K_init 102 = .ok (.iconst 0, 1) := by decide +kernel
theorem de_K_init_103 : decode bc_K_init 103 = .ok (.istore_n 1, 1) := by decide +kernel
theorem de_K_init_104 : decode bc_K_init 104 = .ok (.iload_n 1, 1) := by decide +kernel
theorem de_K_init_105 : decode bc_K_init 105 = .ok (.iconst 4, 1) := by decide +kernel
theorem de_K_init_106 : decode bc_K_init 106 = .ok (.if_icmp .ge 22, 3) := by decide +kernel
theorem de_K_init_109 : decode bc_K_init 109 = .ok (.aload_n 0, 1) := by decide +kernel
theorem de_K_init_110 : decode bc_K_init 110 = .ok (.getfield 17, 3) := by decide +kernel
theorem de_K_init_113 : decode bc_K_init 113 = .ok (.iload_n 1, 1) := by decide +kernel
theorem de_K_init_114 : decode bc_K_init 114 = .ok (.new 15, 3) := by decide +kernel
theorem de_K_init_117 : decode bc_K_init 117 = .ok (.dup, 1) := by decide +kernel
theorem de_K_init_118 : decode bc_K_init 118 = .ok (.invokespecial 59, 3) := by decide +kernel
theorem de_K_init_121 : decode bc_K_init 121 = .ok (.aastore, 1) := by decide +kernel
theorem de_K_init_122 : decode bc_K_init 122 = .ok (.iinc 1 1, 3) := by decide +kernel
theorem de_K_init_125 : decode bc_K_init 125 = .ok (.goto (-21), 3) := by decide +kernel
theorem de_K_init_128 : decode bc_K_init 128 = .ok (.iconst 0, 1) := by decide +kernel
theorem de_K_init_129 : decode bc_K_init 129 = .ok (.istore_n 1, 1) := by decide +kernel
theorem de_K_init_130 : decode bc_K_init 130 = .ok (.iload_n 1, 1) := by decide +kernel
theorem de_K_init_131 : decode bc_K_init 131 = .ok (.iconst 4, 1) := by decide +kernel
theorem de_K_init_132 : decode bc_K_init 132 = .ok (.if_icmp .ge 22, 3) := by decide +kernel
theorem de_K_init_135 : decode bc_K_init 135 = .ok (.aload_n 0, 1) := by decide +kernel
theorem de_K_init_136 : decode bc_K_init 136 = .ok (.getfield 23, 3) := by decide +kernel
theorem de_K_init_139 : decode bc_K_init 139 = .ok (.iload_n 1, 1) := by decide +kernel
theorem de_K_init_140 : decode bc_K_init 140 = .ok (.new 21, 3) := by decide +kernel
theorem de_K_init_143 : decode bc_K_init 143 = .ok (.dup, 1) := by decide +kernel
theorem de_K_init_144 : decode bc_K_init 144 = .ok (.invokespecial 60, 3) := by decide +kernel
theorem de_K_init_147 : decode bc_K_init 147 = .ok (.aastore, 1) := by decide +kernel
theorem de_K_init_148 : decode bc_K_init 148 = .ok (.iinc 1 1, 3) := by decide +kernel
theorem de_K_init_151 : decode bc_K_init 151 = .ok (.goto (-21), 3) := by decide +kernel
theorem de_K_init_154 : decode bc_K_init 154 = .ok (.return_, 1) := by decide +kernel
theorem de_M_init_0 : decode bc_M_init 0 = .ok (.aload_n 0, 1) := by decide +kernel
theorem de_M_init_1 : decode bc_M_init 1 = .ok (.invokespecial 1, 3) := by decide +kernel
theorem de_M_init_4 : decode bc_M_init 4 = .ok (.aload_n 0, 1) := by decide +kernel
theorem de_M_init_5 : decode bc_M_init 5 = .ok (.bipush 12, 2) := by decide +kernel
theorem de_M_init_7 : decode bc_M_init 7 = .ok (.newarray .int, 2) := by decide +kernel
theorem de_M_init_9 : decode bc_M_init 9 = .ok (.putfield 7, 3) := by decide +kernel
theorem de_M_init_12 : decode bc_M_init 12 = .ok (.aload_n 0, 1) := by decide +kernel
theorem de_M_init_13 : decode bc_M_init 13 = .ok (.bipush 12, 2) := by decide +kernel
theorem de_M_init_15 : decode bc_M_init 15 = .ok (.newarray .int, 2) := by decide +kernel
theorem de_M_init_17 : decode bc_M_init 17 = .ok (.putfield 13, 3) := by decide +kernel
theorem de_M_init_20 : decode bc_M_init 20 = .ok (.aload_n 0, 1) := by decide +kernel
theorem de_M_init_21 : decode bc_M_init 21 = .ok (.bipush 12, 2) := by decide +kernel
theorem de_M_init_23 : decode bc_M_init 23 = .ok (.newarray .int, 2) := by decide +kernel
theorem de_M_init_25 : decode bc_M_init 25 = .ok (.putfield 16, 3) := by decide +kernel
theorem de_M_init_28 : decode bc_M_init 28 = .ok (.aload_n 0, 1) := by decide +kernel
theorem de_M_init_29 : decode bc_M_init 29 = .ok (.bipush 12, 2) := by decide +kernel
theorem de_M_init_31 : decode bc_M_init 31 = .ok (.newarray .int, 2) := by decide +kernel
theorem de_M_init_33 : decode bc_M_init 33 = .ok (.putfield 19, 3) := by decide +kernel
theorem de_M_init_36 : decode bc_M_init 36 = .ok (.aload_n 0, 1) := by decide +kernel
theorem de_M_init_37 : decode bc_M_init 37 = .ok (.bipush 12, 2) := by decide +kernel
theorem de_M_init_39 : decode bc_M_init 39 = .ok (.newarray .int, 2) := by decide +kernel
theorem de_M_init_41 : decode bc_M_init 41 = .ok (.putfield 22, 3) := by decide +kernel
theorem de_M_init_44 : decode bc_M_init 44 = .ok (.aload_n 0, 1) := by decide +kernel
theorem de_M_init_45 : decode bc_M_init 45 = .ok (.bipush 12, 2) := by decide +kernel
theorem de_M_init_47 : decode bc_M_init 47 = .ok (.newarray .int, 2) := by decide +kernel
theorem de_M_init_49 : decode bc_M_init 49 = .ok (.putfield 25, 3) := by decide +kernel
theorem de_M_init_52 : decode bc_M_init 52 = .ok (.aload_n 0, 1) := by decide +kernel
theorem de_M_init_53 : decode bc_M_init 53 = .ok (.bipush 12, 2) := by decide +kernel
theorem de_M_init_55 : decode bc_M_init 55 = .ok (.newarray .long, 2) := by decide +kernel
theorem de_M_init_57 : decode bc_M_init 57 = .ok (.putfield 28, 3) := by decide +kernel
theorem de_M_init_60 : decode bc_M_init 60 = .ok (.aload_n 0, 1) := by decide +kernel
theorem de_M_init_61 : decode bc_M_init 61 = .ok (.bipush 12, 2) := by decide +kernel
theorem de_M_init_63 : decode bc_M_init 63 = .ok (.newarray .int, 2) := by decide +kernel
theorem de_M_init_65 : decode bc_M_init 65 = .ok (.putfield 32, 3) := by decide +kernel
theorem de_M_init_68 : decode bc_M_init 68 = .ok (.aload_n 0, 1) := by decide +kernel
theorem de_M_init_69 : decode bc_M_init 69 = .ok (.bipush 12, 2) := by decide +kernel
theorem de_M_init_71 : decode bc_M_init 71 = .ok (.newarray .int, 2) := by decide +kernel
theorem de_M_init_73 : decode bc_M_init 73 = .ok (.putfield 35, 3) := by decide +kernel
theorem de_M_init_76 : decode bc_M_init 76 = .ok (.aload_n 0, 1) := by decide +kernel
theorem de_M_init_77 : decode bc_M_init 77 = .ok (.bipush 12, 2) := by decide +kernel
theorem de_M_init_79 : decode bc_M_init 79 = .ok (.newarray .long, 2) := by decide +kernel
theorem de_M_init_81 : decode bc_M_init 81 = .ok (.putfield 38, 3) := by decide +kernel
theorem de_M_init_84 : decode bc_M_init 84 = .ok (.aload_n 0, 1) := by decide +kernel
theorem de_M_init_85 : decode bc_M_init 85 = .ok (.bipush 120, 2) := by decide +kernel
theorem de_M_init_87 : decode bc_M_init 87 = .ok (.newarray .int, 2) := by decide +kernel
theorem de_M_init_89 : decode bc_M_init 89 = .ok (.putfield 41, 3) := by decide +kernel
theorem de_M_init_92 : decode bc_M_init 92 = .ok (.aload_n 0, 1) := by decide +kernel
theorem de_M_init_93 : decode bc_M_init 93 = .ok (.bipush 120, 2) := by decide +kernel
theorem de_M_init_95 : decode bc_M_init 95 = .ok (.newarray .int, 2) := by decide +kernel
theorem de_M_init_97 : decode bc_M_init 97 = .ok (.putfield 44, 3) := by decide +kernel
theorem de_M_init_100 : decode bc_M_init 100 = .ok (.aload_n 0, 1) := by decide +kernel
theorem de_M_init_101 : decode bc_M_init 101 = .ok (.bipush 120, 2) := by decide +kernel
theorem de_M_init_103 : decode bc_M_init 103 = .ok (.newarray .int, 2) := by decide +kernel
theorem de_M_init_105 : decode bc_M_init 105 = .ok (.putfield 47, 3) := by decide +kernel
theorem de_M_init_108 : decode bc_M_init 108 = .ok (.aload_n 0, 1) := by decide +kernel
theorem de_M_init_109 : decode bc_M_init 109 = .ok (.bipush 48, 2) := by decide +kernel
theorem de_M_init_111 : decode bc_M_init 111 = .ok (.newarray .int, 2) := by decide +kernel
theorem de_M_init_113 : decode bc_M_init 113 = .ok (.putfield 50, 3) := by decide +kernel
theorem de_M_init_116 : decode bc_M_init 116 = .ok (.aload_n 0, 1) := by decide +kernel
theorem de_M_init_117 : decode bc_M_init 117 = .ok (.iconst 4, 1) := by decide +kernel
theorem de_M_init_118 : decode bc_M_init 118 = .ok (.newarray .int, 2) := by decide +kernel
theorem de_M_init_120 : decode bc_M_init 120 = .ok (.putfield 53, 3) := by decide +kernel
theorem de_M_init_123 : decode bc_M_init 123 = .ok (.aload_n 0, 1) := by decide +kernel
theorem de_M_init_124 : decode bc_M_init 124 = .ok (.iconst 4, 1) := by decide +kernel
theorem de_M_init_125 : decode bc_M_init 125 = .ok (.newarray .boolean, 2) := by decide +kernel
theorem de_M_init_127 : decode bc_M_init 127 = .ok (.putfield 56, 3) := by decide +kernel
theorem de_M_init_130 : decode bc_M_init 130 = .ok (.aload_n 0, 1) := by decide +kernel
theorem de_M_init_131 : decode bc_M_init 131 = .ok (.iconst 4, 1) := by decide +kernel
theorem de_M_init_132 : decode bc_M_init 132 = .ok (.newarray .long, 2) := by decide +kernel
theorem de_M_init_134 : decode bc_M_init 134 = .ok (.putfield 60, 3) := by decide +kernel
theorem de_M_init_137 : decode bc_M_init 137 = .ok (.aload_n 0, 1) := by decide +kernel
theorem de_M_init_138 : decode bc_M_init 138 = .ok (.iconst 4, 1) := by decide +kernel
theorem de_M_init_139 : decode bc_M_init 139 = .ok (.newarray .long, 2) := by decide +kernel
theorem de_M_init_141 : decode bc_M_init 141 = .ok (.putfield 63, 3) := by decide +kernel
theorem de_M_init_144 : decode bc_M_init 144 = .ok (.aload_n 0, 1) := by decide +kernel
theorem de_M_init_145 : decode bc_M_init 145 = .ok (.iconst 4, 1) := by decide +kernel
theorem de_M_init_146 : decode bc_M_init 146 = .ok (.newarray .int, 2) := by decide +kernel
theorem de_M_init_148 : decode bc_M_init 148 = .ok (.putfield 66, 3) := by decide +kernel
theorem de_M_init_151 : decode bc_M_init 151 = .ok (.aload_n 0, 1) := by decide +kernel
theorem de_M_init_152 : decode bc_M_init 152 = .ok (.iconst 4, 1) := by decide +kernel
theorem de_M_init_153 : decode bc_M_init 153 = .ok (.newarray .int, 2) := by decide +kernel
theorem de_M_init_155 : decode bc_M_init 155 = .ok (.putfield 69, 3) := by decide +kernel
theorem de_M_init_158 : decode bc_M_init 158 = .ok (.aload_n 0, 1) := by decide +kernel
theorem de_M_init_159 : decode bc_M_init 159 = .ok (.bipush 12, 2) := by decide +kernel
theorem de_M_init_161 : decode bc_M_init 161 = .ok (.newarray .int, 2) := by decide +kernel
theorem de_M_init_163 : decode bc_M_init 163 = .ok (.putfield 72, 3) := by decide +kernel
theorem de_M_init_166 : decode bc_M_init 166 = .ok (.aload_n 0, 1) := by decide +kernel
theorem de_M_init_167 : decode bc_M_init 167 = .ok (.bipush 64, 2) := by decide +kernel
theorem de_M_init_169 : decode bc_M_init 169 = .ok (.newarray .int, 2) := by decide +kernel
theorem de_M_init_171 : decode bc_M_init 171 = .ok (.putfield 75, 3) := by decide +kernel
theorem de_M_init_174 : decode bc_M_init 174 = .ok (.iconst 0, 1) := by decide +kernel
theorem de_M_init_175 : decode bc_M_init 175 = .ok (.istore_n 1, 1) := by decide +kernel
theorem de_M_init_176 : decode bc_M_init 176 = .ok (.iload_n 1, 1) := by decide +kernel
theorem de_M_init_177 : decode bc_M_init 177 = .ok (.iconst 4, 1) := by decide +kernel
theorem de_M_init_178 : decode bc_M_init 178 = .ok (.if_icmp .ge 25, 3) := by decide +kernel
theorem de_M_init_181 : decode bc_M_init 181 = .ok (.aload_n 0, 1) := by decide +kernel
theorem de_M_init_182 : decode bc_M_init 182 = .ok (.getfield 53, 3) := by decide +kernel
theorem de_M_init_185 : decode bc_M_init 185 = .ok (.iload_n 1, 1) := by decide +kernel
theorem de_M_init_186 : decode bc_M_init 186 = .ok (.iconst 1, 1) := by decide +kernel
theorem de_M_init_187 : decode bc_M_init 187 = .ok (.iastore, 1) := by decide +kernel
theorem de_M_init_188 : decode bc_M_init 188 = .ok (.aload_n 0, 1) := by decide +kernel
theorem de_M_init_189 : decode bc_M_init 189 = .ok (.getfield 66, 3) := by decide +kernel
theorem de_M_init_192 : decode bc_M_init 192 = .ok (.iload_n 1, 1) := by decide +kernel
theorem de_M_init_193 : decode bc_M_init 193 = .ok (.sipush 1000, 3) := by decide +kernel
theorem de_M_init_196 : decode bc_M_init 196 = .ok (.iastore, 1) := by decide +kernel
theorem de_M_init_197 : decode bc_M_init 197 = .ok (.iinc 1 1, 3) := by decide +kernel
theorem de_M_init_200 : decode bc_M_init 200 = .ok (.goto (-24), 3) := by decide +kernel
theorem de_M_init_203 : decode bc_M_init 203 = .ok (.return_, 1) := by decide +kernel
theorem de_K_isWithin_0 : decode bc_K_isWithin 0 = .ok (.iload_n 0, 1) := by decide +kernel
theorem de_K_isWithin_1 : decode bc_K_isWithin 1 = .ok (.iload_n 1, 1) := by decide +kernel
theorem de_K_isWithin_2 : decode bc_K_isWithin 2 = .ok (.if_icmp .lt 12, 3) := by decide +kernel
theorem de_K_isWithin_5 : decode bc_K_isWithin 5 = .ok (.iload_n 0, 1) := by decide +kernel
theorem de_K_isWithin_6 : decode bc_K_isWithin 6 = .ok (.iload_n 2, 1) := by decide +kernel
theorem de_K_isWithin_7 : decode bc_K_isWithin 7 = .ok (.if_icmp .gt 7, 3) := by decide +kernel
theorem de_K_isWithin_10 : decode bc_K_isWithin 10 = .ok (.iconst 1, 1) := by decide +kernel
theorem de_K_isWithin_11 : decode bc_K_isWithin 11 = .ok (.goto 4, 3) := by decide +kernel
theorem de_K_isWithin_14 : decode bc_K_isWithin 14 = .ok (.iconst 0, 1) := by decide +kernel
theorem de_K_isWithin_15 : decode bc_K_isWithin 15 = .ok (.ireturn, 1) := by decide +kernel
theorem de_K_process_0 : decode bc_K_process 0 = .ok (.aload_n 0, 1) := by decide +kernel
theorem de_K_process_1 : decode bc_K_process 1 = .ok (.getfield 45, 3) := by decide +kernel
theorem de_K_process_4 : decode bc_K_process 4 = .ok (.bipush 12, 2) := by decide +kernel
theorem de_K_process_6 : decode bc_K_process 6 = .ok (.if_icmp .ge 33, 3) := by decide +kernel
theorem de_K_process_9 : decode bc_K_process 9 = .ok (.iload_n 1, 1) := by decide +kernel
theorem de_K_process_10 : decode bc_K_process 10 = .ok (.bipush (-4), 2) := by decide +kernel
theorem de_K_process_12 : decode bc_K_process 12 = .ok (.iconst 4, 1) := by decide +kernel
theorem de_K_process_13 : decode bc_K_process 13 = .ok (.invokestatic 61, 3) := by decide +kernel
theorem de_K_process_16 : decode bc_K_process 16 = .ok (.ifCond .eq 23, 3) := by decide +kernel
theorem de_K_process_19 : decode bc_K_process 19 = .ok (.iload_n 2, 1) := by decide +kernel
theorem de_K_process_20 : decode bc_K_process 20 = .ok (.iconst 1, 1) := by decide +kernel
theorem de_K_process_21 : decode bc_K_process 21 = .ok (.bipush 9, 2) := by decide +kernel
theorem de_K_process_23 : decode bc_K_process 23 = .ok (.invokestatic 61, 3) := by decide +kernel
theorem de_K_process_26 : decode bc_K_process 26 = .ok (.ifCond .eq 13, 3) := by decide +kernel
theorem de_K_process_29 : decode bc_K_process 29 = .ok (.iload_n 3, 1) := by decide +kernel
theorem de_K_process_30 : decode bc_K_process 30 = .ok (.iconst 0, 1) := by decide +kernel
theorem de_K_process_31 : decode bc_K_process 31 = .ok (.bipush 10, 2) := by decide +kernel
theorem de_K_process_33 : decode bc_K_process 33 = .ok (.invokestatic 61, 3) := by decide +kernel
theorem de_K_process_36 : decode bc_K_process 36 = .ok (.ifCond .ne 5, 3) := by decide +kernel
theorem de_K_process_39 : decode bc_K_process 39 = .ok (.iconst (-1), 1) := by decide +kernel
theorem de_K_process_40 : decode bc_K_process 40 = .ok (.ireturn, 1) := by decide +kernel
theorem de_K_process_41 : decode bc_K_process 41 = .ok (.aload_n 0, 1) := by decide +kernel
theorem de_K_process_42 : decode bc_K_process 42 = .ok (.getfield 11, 3) := by decide +kernel
theorem de_K_process_45 : decode bc_K_process 45 = .ok (.aload_n 0, 1) := by decide +kernel
theorem de_K_process_46 : decode bc_K_process 46 = .ok (.getfield 45, 3) := by decide +kernel
theorem de_K_process_49 : decode bc_K_process 49 = .ok (.aaload, 1) := by decide +kernel
theorem de_K_process_50 : decode bc_K_process 50 = .ok (.astore 4, 2) := by decide +kernel
theorem de_K_process_52 : decode bc_K_process 52 = .ok (.aload 4, 2) := by decide +kernel
theorem de_K_process_54 : decode bc_K_process 54 = .ok (.iload_n 1, 1) := by decide +kernel
theorem de_K_process_55 : decode bc_K_process 55 = .ok (.putfield 65, 3) := by decide +kernel
theorem de_K_process_58 : decode bc_K_process 58 = .ok (.aload 4, 2) := by decide +kernel
theorem de_K_process_60 : decode bc_K_process 60 = .ok (.iload_n 2, 1) := by decide +kernel
theorem de_K_process_61 : decode bc_K_process 61 = .ok (.putfield 68, 3) := by decide +kernel
theorem de_K_process_64 : decode bc_K_process 64 = .ok (.aload 4, 2) := by decide +kernel
theorem de_K_process_66 : decode bc_K_process 66 = .ok (.iload_n 3, 1) := by decide +kernel
theorem de_K_process_67 : decode bc_K_process 67 = .ok (.putfield 71, 3) := by decide +kernel
theorem de_K_process_70 : decode bc_K_process 70 = .ok (.aload_n 0, 1) := by decide +kernel
theorem de_K_process_71 : decode bc_K_process 71 = .ok (.dup, 1) := by decide +kernel
theorem de_K_process_72 : decode bc_K_process 72 = .ok (.getfield 45, 3) := by decide +kernel
theorem de_K_process_75 : decode bc_K_process 75 = .ok (.iconst 1, 1) := by decide +kernel
theorem de_K_process_76 : decode bc_K_process 76 = .ok (.iadd, 1) := by decide +kernel
theorem de_K_process_77 : decode bc_K_process 77 = .ok (.putfield 45, 3) := by decide +kernel
theorem de_K_process_80 : decode bc_K_process 80 = .ok (.aload 4, 2) := by decide +kernel
theorem de_K_process_82 : decode bc_K_process 82 = .ok (.getfield 74, 3) := by decide +kernel
theorem de_K_process_85 : decode bc_K_process 85 = .ok (.ireturn, 1) := by decide +kernel
theorem de_K_isProcess_0 : decode bc_K_isProcess 0 = .ok (.iload_n 1, 1) := by decide +kernel
theorem de_K_isProcess_1 : decode bc_K_isProcess 1 = .ok (.ifCond .lt 15, 3) := by decide +kernel
theorem de_K_isProcess_4 : decode bc_K_isProcess 4 = .ok (.iload_n 1, 1) := by decide +kernel
theorem de_K_isProcess_5 : decode bc_K_isProcess 5 = .ok (.aload_n 0, 1) := by decide +kernel
theorem de_K_isProcess_6 : decode bc_K_isProcess 6 = .ok (.getfield 45, 3) := by decide +kernel
theorem de_K_isProcess_9 : decode bc_K_isProcess 9 = .ok (.if_icmp .ge 7, 3) := by decide +kernel
theorem de_K_isProcess_12 : decode bc_K_isProcess 12 = .ok (.iconst 1, 1) := by decide +kernel
theorem de_K_isProcess_13 : decode bc_K_isProcess 13 = .ok (.goto 4, 3) := by decide +kernel
theorem de_K_isProcess_16 : decode bc_K_isProcess 16 = .ok (.iconst 0, 1) := by decide +kernel
theorem de_K_isProcess_17 : decode bc_K_isProcess 17 = .ok (.ireturn, 1) := by decide +kernel
theorem de_K_isResource_0 : decode bc_K_isResource 0 = .ok (.iload_n 0, 1) := by decide +kernel
theorem de_K_isResource_1 : decode bc_K_isResource 1 = .ok (.iconst 0, 1) := by decide +kernel
theorem de_K_isResource_2 : decode bc_K_isResource 2 = .ok (.iconst 3, 1) := by decide +kernel
theorem de_K_isResource_3 : decode bc_K_isResource 3 = .ok (.invokestatic 61, 3) := by decide +kernel
theorem de_K_isResource_6 : decode bc_K_isResource 6 = .ok (.ireturn, 1) := by decide +kernel
theorem de_K_isTank_0 : decode bc_K_isTank 0 = .ok (.iload_n 0, 1) := by decide +kernel
theorem de_K_isTank_1 : decode bc_K_isTank 1 = .ok (.iconst 0, 1) := by decide +kernel
theorem de_K_isTank_2 : decode bc_K_isTank 2 = .ok (.iconst 3, 1) := by decide +kernel
theorem de_K_isTank_3 : decode bc_K_isTank 3 = .ok (.invokestatic 61, 3) := by decide +kernel
theorem de_K_isTank_6 : decode bc_K_isTank 6 = .ok (.ireturn, 1) := by decide +kernel
theorem de_K_isInstruction_0 : decode bc_K_isInstruction 0 = .ok (.iload_n 0, 1) := by decide +kernel
theorem de_K_isInstruction_1 : decode bc_K_isInstruction 1 = .ok (.tableswitch 120 0 9 #[55, 63, 65, 65, 88, 88, 112, 112, 112, 112], 55) := by decide +kernel
theorem de_K_isInstruction_56 : decode bc_K_isInstruction 56 = .ok (.iload_n 1, 1) := by decide +kernel
theorem de_K_isInstruction_57 : decode bc_K_isInstruction 57 = .ok (.iconst 0, 1) := by decide +kernel
theorem de_K_isInstruction_58 : decode bc_K_isInstruction 58 = .ok (.ldc 117, 2) := by decide +kernel
theorem de_K_isInstruction_60 : decode bc_K_isInstruction 60 = .ok (.invokestatic 61, 3) := by decide +kernel
theorem de_K_isInstruction_63 : decode bc_K_isInstruction 63 = .ok (.ireturn, 1) := by decide +kernel
theorem de_K_isInstruction_64 : decode bc_K_isInstruction 64 = .ok (.iconst 1, 1) := by decide +kernel
theorem de_K_isInstruction_65 : decode bc_K_isInstruction 65 = .ok (.ireturn, 1) := by decide +kernel
theorem de_K_isInstruction_66 : decode bc_K_isInstruction 66 = .ok (.iload_n 1, 1) := by decide +kernel
theorem de_K_isInstruction_67 : decode bc_K_isInstruction 67 = .ok (.invokestatic 94, 3) := by decide +kernel
theorem de_K_isInstruction_70 : decode bc_K_isInstruction 70 = .ok (.ifCond .eq 17, 3) := by decide +kernel
theorem de_K_isInstruction_73 : decode bc_K_isInstruction 73 = .ok (.iload_n 2, 1) := by decide +kernel
theorem de_K_isInstruction_74 : decode bc_K_isInstruction 74 = .ok (.iconst 1, 1) := by decide +kernel
theorem de_K_isInstruction_75 : decode bc_K_isInstruction 75 = .ok (.bipush 9, 2) := by decide +kernel
theorem de_K_isInstruction_77 : decode bc_K_isInstruction 77 = .ok (.invokestatic 61, 3) := by decide +kernel
theorem de_K_isInstruction_80 : decode bc_K_isInstruction 80 = .ok (.ifCond .eq 7, 3) := by decide +kernel
theorem de_K_isInstruction_83 : decode bc_K_isInstruction 83 = .ok (.iconst 1, 1) := by decide +kernel
theorem de_K_isInstruction_84 : decode bc_K_isInstruction 84 = .ok (.goto 4, 3) := by decide +kernel
theorem de_K_isInstruction_87 : decode bc_K_isInstruction 87 = .ok (.iconst 0, 1) := by decide +kernel
theorem de_K_isInstruction_88 : decode bc_K_isInstruction 88 = .ok (.ireturn, 1) := by decide +kernel
theorem de_K_isInstruction_89 : decode bc_K_isInstruction 89 = .ok (.iload_n 1, 1) := by decide +kernel
theorem de_K_isInstruction_90 : decode bc_K_isInstruction 90 = .ok (.invokestatic 110, 3) := by decide +kernel
theorem de_K_isInstruction_93 : decode bc_K_isInstruction 93 = .ok (.ifCond .eq 18, 3) := by decide +kernel
theorem de_K_isInstruction_96 : decode bc_K_isInstruction 96 = .ok (.iload_n 2, 1) := by decide +kernel
theorem de_K_isInstruction_97 : decode bc_K_isInstruction 97 = .ok (.iconst 1, 1) := by decide +kernel
theorem de_K_isInstruction_98 : decode bc_K_isInstruction 98 = .ok (.sipush 1000, 3) := by decide +kernel
theorem de_K_isInstruction_101 : decode bc_K_isInstruction 101 = .ok (.invokestatic 61, 3) := by decide +kernel
theorem de_K_isInstruction_104 : decode bc_K_isInstruction 104 = .ok (.ifCond .eq 7, 3) := by decide +kernel
theorem de_K_isInstruction_107 : decode bc_K_isInstruction 107 = .ok (.iconst 1, 1) := by decide +kernel
theorem de_K_isInstruction_108 : decode bc_K_isInstruction 108 = .ok (.goto 4, 3) := by decide +kernel
theorem de_K_isInstruction_111 : decode bc_K_isInstruction 111 = .ok (.iconst 0, 1) := by decide +kernel
theorem de_K_isInstruction_112 : decode bc_K_isInstruction 112 = .ok (.ireturn, 1) := by decide +kernel
theorem de_K_isInstruction_113 : decode bc_K_isInstruction 113 = .ok (.iload_n 1, 1) := by decide +kernel
theorem de_K_isInstruction_114 : decode bc_K_isInstruction 114 = .ok (.iconst 0, 1) := by decide +kernel
theorem de_K_isInstruction_115 : decode bc_K_isInstruction 115 = .ok (.bipush 11, 2) := by decide +kernel
theorem de_K_isInstruction_117 : decode bc_K_isInstruction 117 = .ok (.invokestatic 61, 3) := by decide +kernel
theorem de_K_isInstruction_120 : decode bc_K_isInstruction 120 = .ok (.ireturn, 1) := by decide +kernel
theorem de_K_isInstruction_121 : decode bc_K_isInstruction 121 = .ok (.iconst 0, 1) := by decide +kernel
theorem de_K_isInstruction_122 : decode bc_K_isInstruction 122 = .ok (.ireturn, 1) := by decide +kernel
theorem de_P_append_0 : decode bc_P_append 0 = .ok (.aload_n 0, 1) := by decide +kernel
theorem de_P_append_1 : decode bc_P_append 1 = .ok (.getfield 9, 3) := by decide +kernel
theorem de_P_append_4 : decode bc_P_append 4 = .ok (.aload_n 0, 1) := by decide +kernel
theorem de_P_append_5 : decode bc_P_append 5 = .ok (.getfield 24, 3) := by decide +kernel
theorem de_P_append_8 : decode bc_P_append 8 = .ok (.iload_n 1, 1) := by decide +kernel
theorem de_P_append_9 : decode bc_P_append 9 = .ok (.iastore, 1) := by decide +kernel
theorem de_P_append_10 : decode bc_P_append 10 = .ok (.aload_n 0, 1) := by decide +kernel
theorem de_P_append_11 : decode bc_P_append 11 = .ok (.getfield 15, 3) := by decide +kernel
theorem de_P_append_14 : decode bc_P_append 14 = .ok (.aload_n 0, 1) := by decide +kernel
theorem de_P_append_15 : decode bc_P_append 15 = .ok (.getfield 24, 3) := by decide +kernel
theorem de_P_append_18 : decode bc_P_append 18 = .ok (.iload_n 2, 1) := by decide +kernel
theorem de_P_append_19 : decode bc_P_append 19 = .ok (.iastore, 1) := by decide +kernel
theorem de_P_append_20 : decode bc_P_append 20 = .ok (.aload_n 0, 1) := by decide +kernel
theorem de_P_append_21 : decode bc_P_append 21 = .ok (.getfield 18, 3) := by decide +kernel
theorem de_P_append_24 : decode bc_P_append 24 = .ok (.aload_n 0, 1) := by decide +kernel
theorem de_P_append_25 : decode bc_P_append 25 = .ok (.getfield 24, 3) := by decide +kernel
theorem de_P_append_28 : decode bc_P_append 28 = .ok (.iload_n 3, 1) := by decide +kernel
theorem de_P_append_29 : decode bc_P_append 29 = .ok (.iastore, 1) := by decide +kernel
theorem de_P_append_30 : decode bc_P_append 30 = .ok (.aload_n 0, 1) := by decide +kernel
theorem de_P_append_31 : decode bc_P_append 31 = .ok (.dup, 1) := by decide +kernel
theorem de_P_append_32 : decode bc_P_append 32 = .ok (.getfield 24, 3) := by decide +kernel
theorem de_P_append_35 : decode bc_P_append 35 = .ok (.iconst 1, 1) := by decide +kernel
theorem de_P_append_36 : decode bc_P_append 36 = .ok (.iadd, 1) := by decide +kernel
theorem de_P_append_37 : decode bc_P_append 37 = .ok (.putfield 24, 3) := by decide +kernel
theorem de_P_append_40 : decode bc_P_append 40 = .ok (.return_, 1) := by decide +kernel
theorem de_K_instruct_0 : decode bc_K_instruct 0 = .ok (.aload_n 0, 1) := by decide +kernel
theorem de_K_instruct_1 : decode bc_K_instruct 1 = .ok (.iload_n 1, 1) := by decide +kernel
theorem de_K_instruct_2 : decode bc_K_instruct 2 = .ok (.invokevirtual 77, 3) := by decide +kernel
theorem de_K_instruct_5 : decode bc_K_instruct 5 = .ok (.ifCond .eq 13, 3) := by decide +kernel
theorem de_K_instruct_8 : decode bc_K_instruct 8 = .ok (.iload_n 2, 1) := by decide +kernel
theorem de_K_instruct_9 : decode bc_K_instruct 9 = .ok (.iload_n 3, 1) := by decide +kernel
theorem de_K_instruct_10 : decode bc_K_instruct 10 = .ok (.iload 4, 2) := by decide +kernel
theorem de_K_instruct_12 : decode bc_K_instruct 12 = .ok (.invokestatic 81, 3) := by decide +kernel
theorem de_K_instruct_15 : decode bc_K_instruct 15 = .ok (.ifCond .ne 5, 3) := by decide +kernel
theorem de_K_instruct_18 : decode bc_K_instruct 18 = .ok (.iconst 0, 1) := by decide +kernel
theorem de_K_instruct_19 : decode bc_K_instruct 19 = .ok (.ireturn, 1) := by decide +kernel
theorem de_K_instruct_20 : decode bc_K_instruct 20 = .ok (.aload_n 0, 1) := by decide +kernel
theorem de_K_instruct_21 : decode bc_K_instruct 21 = .ok (.getfield 11, 3) := by decide +kernel
theorem de_K_instruct_24 : decode bc_K_instruct 24 = .ok (.iload_n 1, 1) := by decide +kernel
theorem de_K_instruct_25 : decode bc_K_instruct 25 = .ok (.aaload, 1) := by decide +kernel
theorem de_K_instruct_26 : decode bc_K_instruct 26 = .ok (.astore 5, 2) := by decide +kernel
theorem de_K_instruct_28 : decode bc_K_instruct 28 = .ok (.aload 5, 2) := by decide +kernel
theorem de_K_instruct_30 : decode bc_K_instruct 30 = .ok (.getfield 84, 3) := by decide +kernel
theorem de_K_instruct_33 : decode bc_K_instruct 33 = .ok (.ifCond .ne 13, 3) := by decide +kernel
theorem de_K_instruct_36 : decode bc_K_instruct 36 = .ok (.aload 5, 2) := by decide +kernel
theorem de_K_instruct_38 : decode bc_K_instruct 38 = .ok (.getfield 87, 3) := by decide +kernel
theorem de_K_instruct_41 : decode bc_K_instruct 41 = .ok (.bipush 10, 2) := by decide +kernel
theorem de_K_instruct_43 : decode bc_K_instruct 43 = .ok (.if_icmp .lt 5, 3) := by decide +kernel
theorem de_K_instruct_46 : decode bc_K_instruct 46 = .ok (.iconst 0, 1) := by decide +kernel
theorem de_K_instruct_47 : decode bc_K_instruct 47 = .ok (.ireturn, 1) := by decide +kernel
theorem de_K_instruct_48 : decode bc_K_instruct 48 = .ok (.aload 5, 2) := by decide +kernel
theorem de_K_instruct_50 : decode bc_K_instruct 50 = .ok (.iload_n 2, 1) := by decide +kernel
theorem de_K_instruct_51 : decode bc_K_instruct 51 = .ok (.iload_n 3, 1) := by decide +kernel
theorem de_K_instruct_52 : decode bc_K_instruct 52 = .ok (.iload 4, 2) := by decide +kernel
theorem de_K_instruct_54 : decode bc_K_instruct 54 = .ok (.invokevirtual 90, 3) := by decide +kernel
theorem de_K_instruct_57 : decode bc_K_instruct 57 = .ok (.iconst 1, 1) := by decide +kernel
theorem de_K_instruct_58 : decode bc_K_instruct 58 = .ok (.ireturn, 1) := by decide +kernel
theorem de_P_secondOperand_0 : decode bc_P_secondOperand 0 = .ok (.aload_n 0, 1) := by decide +kernel
theorem de_P_secondOperand_1 : decode bc_P_secondOperand 1 = .ok (.getfield 18, 3) := by decide +kernel
theorem de_P_secondOperand_4 : decode bc_P_secondOperand 4 = .ok (.aload_n 0, 1) := by decide +kernel
theorem de_P_secondOperand_5 : decode bc_P_secondOperand 5 = .ok (.getfield 43, 3) := by decide +kernel
theorem de_P_secondOperand_8 : decode bc_P_secondOperand 8 = .ok (.iaload, 1) := by decide +kernel
theorem de_P_secondOperand_9 : decode bc_P_secondOperand 9 = .ok (.ireturn, 1) := by decide +kernel
theorem de_E_unseized_0 : decode bc_E_unseized 0 = .ok (.aload_n 0, 1) := by decide +kernel
theorem de_E_unseized_1 : decode bc_E_unseized 1 = .ok (.getfield 16, 3) := by decide +kernel
theorem de_E_unseized_4 : decode bc_E_unseized 4 = .ok (.aload_n 0, 1) := by decide +kernel
theorem de_E_unseized_5 : decode bc_E_unseized 5 = .ok (.getfield 20, 3) := by decide +kernel
theorem de_E_unseized_8 : decode bc_E_unseized 8 = .ok (.isub, 1) := by decide +kernel
theorem de_E_unseized_9 : decode bc_E_unseized 9 = .ok (.ireturn, 1) := by decide +kernel
theorem de_K_give_0 : decode bc_K_give 0 = .ok (.aload_n 1, 1) := by decide +kernel
theorem de_K_give_1 : decode bc_K_give 1 = .ok (.getfield 176, 3) := by decide +kernel
theorem de_K_give_4 : decode bc_K_give 4 = .ok (.iload_n 2, 1) := by decide +kernel
theorem de_K_give_5 : decode bc_K_give 5 = .ok (.dup2, 1) := by decide +kernel
theorem de_K_give_6 : decode bc_K_give 6 = .ok (.iaload, 1) := by decide +kernel
theorem de_K_give_7 : decode bc_K_give 7 = .ok (.iload_n 3, 1) := by decide +kernel
theorem de_K_give_8 : decode bc_K_give 8 = .ok (.iadd, 1) := by decide +kernel
theorem de_K_give_9 : decode bc_K_give 9 = .ok (.iastore, 1) := by decide +kernel
theorem de_K_give_10 : decode bc_K_give 10 = .ok (.aload_n 0, 1) := by decide +kernel
theorem de_K_give_11 : decode bc_K_give 11 = .ok (.getfield 17, 3) := by decide +kernel
theorem de_K_give_14 : decode bc_K_give 14 = .ok (.iload_n 2, 1) := by decide +kernel
theorem de_K_give_15 : decode bc_K_give 15 = .ok (.aaload, 1) := by decide +kernel
theorem de_K_give_16 : decode bc_K_give 16 = .ok (.dup, 1) := by decide +kernel
theorem de_K_give_17 : decode bc_K_give 17 = .ok (.getfield 97, 3) := by decide +kernel
theorem de_K_give_20 : decode bc_K_give 20 = .ok (.iload_n 3, 1) := by decide +kernel
theorem de_K_give_21 : decode bc_K_give 21 = .ok (.iadd, 1) := by decide +kernel
theorem de_K_give_22 : decode bc_K_give 22 = .ok (.putfield 97, 3) := by decide +kernel
