theorem de_M_interrupt_68 : decode bc_M_interrupt 68 = .ok (.iload_n 1, 1) := by decide +kernel
theorem de_M_interrupt_69 : decode bc_M_interrupt 69 = .ok (.iconst 1, 1) := by decide +kernel
theorem de_M_interrupt_70 : decode bc_M_interrupt 70 = .ok (.aload_n 0, 1) := by decide +kernel
theorem de_M_interrupt_71 : decode bc_M_interrupt 71 = .ok (.getfield 118, 3) := by decide +kernel
theorem de_M_interrupt_74 : decode bc_M_interrupt 74 = .ok (.invokevirtual 122, 3) := by decide +kernel
theorem de_M_interrupt_77 : decode bc_M_interrupt 77 = .ok (.iload_n 2, 1) := by decide +kernel
theorem de_M_interrupt_78 : decode bc_M_interrupt 78 = .ok (.ifCond .lt 8, 3) := by decide +kernel
theorem de_M_interrupt_81 : decode bc_M_interrupt 81 = .ok (.aload_n 0, 1) := by decide +kernel
theorem de_M_interrupt_82 : decode bc_M_interrupt 82 = .ok (.iload_n 2, 1) := by decide +kernel
theorem de_M_interrupt_83 : decode bc_M_interrupt 83 = .ok (.invokevirtual 98, 3) := by decide +kernel
theorem de_M_interrupt_86 : decode bc_M_interrupt 86 = .ok (.iconst 1, 1) := by decide +kernel
theorem de_M_interrupt_87 : decode bc_M_interrupt 87 = .ok (.ireturn, 1) := by decide +kernel
theorem de_M_preempt_0 : decode bc_M_preempt 0 = .ok (.iconst 0, 1) := by decide +kernel
theorem de_M_preempt_1 : decode bc_M_preempt 1 = .ok (.istore 4, 2) := by decide +kernel
theorem de_M_preempt_3 : decode bc_M_preempt 3 = .ok (.iconst 0, 1) := by decide +kernel
theorem de_M_preempt_4 : decode bc_M_preempt 4 = .ok (.istore 5, 2) := by decide +kernel
theorem de_M_preempt_6 : decode bc_M_preempt 6 = .ok (.iload 5, 2) := by decide +kernel
theorem de_M_preempt_8 : decode bc_M_preempt 8 = .ok (.bipush 12, 2) := by decide +kernel
theorem de_M_preempt_10 : decode bc_M_preempt 10 = .ok (.if_icmp .ge 55, 3) := by decide +kernel
theorem de_M_preempt_13 : decode bc_M_preempt 13 = .ok (.aload_n 0, 1) := by decide +kernel
theorem de_M_preempt_14 : decode bc_M_preempt 14 = .ok (.iload_n 2, 1) := by decide +kernel
theorem de_M_preempt_15 : decode bc_M_preempt 15 = .ok (.invokevirtual 115, 3) := by decide +kernel
theorem de_M_preempt_18 : decode bc_M_preempt 18 = .ok (.iload_n 3, 1) := by decide +kernel
theorem de_M_preempt_19 : decode bc_M_preempt 19 = .ok (.if_icmp .ge 46, 3) := by decide +kernel
theorem de_M_preempt_22 : decode bc_M_preempt 22 = .ok (.aload_n 0, 1) := by decide +kernel
theorem de_M_preempt_23 : decode bc_M_preempt 23 = .ok (.iload_n 1, 1) := by decide +kernel
theorem de_M_preempt_24 : decode bc_M_preempt 24 = .ok (.iload_n 2, 1) := by decide +kernel
theorem de_M_preempt_25 : decode bc_M_preempt 25 = .ok (.invokevirtual 137, 3) := by decide +kernel
theorem de_M_preempt_28 : decode bc_M_preempt 28 = .ok (.istore 6, 2) := by decide +kernel
theorem de_M_preempt_30 : decode bc_M_preempt 30 = .ok (.iload 6, 2) := by decide +kernel
theorem de_M_preempt_32 : decode bc_M_preempt 32 = .ok (.ifCond .lt 27, 3) := by decide +kernel
theorem de_M_preempt_35 : decode bc_M_preempt 35 = .ok (.aload_n 0, 1) := by decide +kernel
theorem de_M_preempt_36 : decode bc_M_preempt 36 = .ok (.getfield 50, 3) := by decide +kernel
theorem de_M_preempt_39 : decode bc_M_preempt 39 = .ok (.iconst 4, 1) := by decide +kernel
theorem de_M_preempt_40 : decode bc_M_preempt 40 = .ok (.iload 6, 2) := by decide +kernel
theorem de_M_preempt_42 : decode bc_M_preempt 42 = .ok (.imul, 1) := by decide +kernel
theorem de_M_preempt_43 : decode bc_M_preempt 43 = .ok (.iload_n 2, 1) := by decide +kernel
theorem de_M_preempt_44 : decode bc_M_preempt 44 = .ok (.iadd, 1) := by decide +kernel
theorem de_M_preempt_45 : decode bc_M_preempt 45 = .ok (.iconst 0, 1) := by decide +kernel
theorem de_M_preempt_46 : decode bc_M_preempt 46 = .ok (.iastore, 1) := by decide +kernel
theorem de_M_preempt_47 : decode bc_M_preempt 47 = .ok (.aload_n 0, 1) := by decide +kernel
theorem de_M_preempt_48 : decode bc_M_preempt 48 = .ok (.getfield 72, 3) := by decide +kernel
theorem de_M_preempt_51 : decode bc_M_preempt 51 = .ok (.iload 4, 2) := by decide +kernel
theorem de_M_preempt_53 : decode bc_M_preempt 53 = .ok (.iload 6, 2) := by decide +kernel
theorem de_M_preempt_55 : decode bc_M_preempt 55 = .ok (.iastore, 1) := by decide +kernel
theorem de_M_preempt_56 : decode bc_M_preempt 56 = .ok (.iinc 4 1, 3) := by decide +kernel
theorem de_M_preempt_59 : decode bc_M_preempt 59 = .ok (.iinc 5 1, 3) := by decide +kernel
theorem de_M_preempt_62 : decode bc_M_preempt 62 = .ok (.goto (-56), 3) := by decide +kernel
theorem de_M_preempt_65 : decode bc_M_preempt 65 = .ok (.aload_n 0, 1) := by decide +kernel
theorem de_M_preempt_66 : decode bc_M_preempt 66 = .ok (.getfield 50, 3) := by decide +kernel
theorem de_M_preempt_69 : decode bc_M_preempt 69 = .ok (.iconst 4, 1) := by decide +kernel
theorem de_M_preempt_70 : decode bc_M_preempt 70 = .ok (.iload_n 1, 1) := by decide +kernel
theorem de_M_preempt_71 : decode bc_M_preempt 71 = .ok (.imul, 1) := by decide +kernel
theorem de_M_preempt_72 : decode bc_M_preempt 72 = .ok (.iload_n 2, 1) := by decide +kernel
theorem de_M_preempt_73 : decode bc_M_preempt 73 = .ok (.iadd, 1) := by decide +kernel
theorem de_M_preempt_74 : decode bc_M_preempt 74 = .ok (.dup2, 1) := by decide +kernel
theorem de_M_preempt_75 : decode bc_M_preempt 75 = .ok (.iaload, 1) := by decide +kernel
theorem de_M_preempt_76 : decode bc_M_preempt 76 = .ok (.iload_n 3, 1) := by decide +kernel
theorem de_M_preempt_77 : decode bc_M_preempt 77 = .ok (.iadd, 1) := by decide +kernel
theorem de_M_preempt_78 : decode bc_M_preempt 78 = .ok (.iastore, 1) := by decide +kernel
theorem de_M_preempt_79 : decode bc_M_preempt 79 = .ok (.iconst 0, 1) := by decide +kernel
theorem de_M_preempt_80 : decode bc_M_preempt 80 = .ok (.istore 5, 2) := by decide +kernel
theorem de_M_preempt_82 : decode bc_M_preempt 82 = .ok (.iload 5, 2) := by decide +kernel
theorem de_M_preempt_84 : decode bc_M_preempt 84 = .ok (.iload 4, 2) := by decide +kernel
theorem de_M_preempt_86 : decode bc_M_preempt 86 = .ok (.if_icmp .ge 21, 3) := by decide +kernel
theorem de_M_preempt_89 : decode bc_M_preempt 89 = .ok (.aload_n 0, 1) := by decide +kernel
theorem de_M_preempt_90 : decode bc_M_preempt 90 = .ok (.aload_n 0, 1) := by decide +kernel
theorem de_M_preempt_91 : decode bc_M_preempt 91 = .ok (.getfield 72, 3) := by decide +kernel
theorem de_M_preempt_94 : decode bc_M_preempt 94 = .ok (.iload 5, 2) := by decide +kernel
theorem de_M_preempt_96 : decode bc_M_preempt 96 = .ok (.iaload, 1) := by decide +kernel
theorem de_M_preempt_97 : decode bc_M_preempt 97 = .ok (.invokevirtual 140, 3) := by decide +kernel
theorem de_M_preempt_100 : decode bc_M_preempt 100 = .ok (.pop, 1) := by decide +kernel
theorem de_M_preempt_101 : decode bc_M_preempt 101 = .ok (.iinc 5 1, 3) := by decide +kernel
theorem de_M_preempt_104 : decode bc_M_preempt 104 = .ok (.goto (-22), 3) := by decide +kernel
theorem de_M_preempt_107 : decode bc_M_preempt 107 = .ok (.aload_n 0, 1) := by decide +kernel
theorem de_M_preempt_108 : decode bc_M_preempt 108 = .ok (.iload_n 2, 1) := by decide +kernel
theorem de_M_preempt_109 : decode bc_M_preempt 109 = .ok (.invokevirtual 98, 3) := by decide +kernel
theorem de_M_preempt_112 : decode bc_M_preempt 112 = .ok (.return_, 1) := by decide +kernel
theorem de_M_seize_0 : decode bc_M_seize 0 = .ok (.aload_n 0, 1) := by decide +kernel
theorem de_M_seize_1 : decode bc_M_seize 1 = .ok (.iload_n 2, 1) := by decide +kernel
theorem de_M_seize_2 : decode bc_M_seize 2 = .ok (.invokevirtual 112, 3) := by decide +kernel
theorem de_M_seize_5 : decode bc_M_seize 5 = .ok (.istore 4, 2) := by decide +kernel
theorem de_M_seize_7 : decode bc_M_seize 7 = .ok (.iload 4, 2) := by decide +kernel
theorem de_M_seize_9 : decode bc_M_seize 9 = .ok (.ifCond .lt 19, 3) := by decide +kernel
theorem de_M_seize_12 : decode bc_M_seize 12 = .ok (.aload_n 0, 1) := by decide +kernel
theorem de_M_seize_13 : decode bc_M_seize 13 = .ok (.getfield 7, 3) := by decide +kernel
theorem de_M_seize_16 : decode bc_M_seize 16 = .ok (.iload 4, 2) := by decide +kernel
theorem de_M_seize_18 : decode bc_M_seize 18 = .ok (.iaload, 1) := by decide +kernel
theorem de_M_seize_19 : decode bc_M_seize 19 = .ok (.aload_n 0, 1) := by decide +kernel
theorem de_M_seize_20 : decode bc_M_seize 20 = .ok (.getfield 7, 3) := by decide +kernel
theorem de_M_seize_23 : decode bc_M_seize 23 = .ok (.iload_n 1, 1) := by decide +kernel
theorem de_M_seize_24 : decode bc_M_seize 24 = .ok (.iaload, 1) := by decide +kernel
theorem de_M_seize_25 : decode bc_M_seize 25 = .ok (.if_icmp .le 7, 3) := by decide +kernel
theorem de_M_seize_28 : decode bc_M_seize 28 = .ok (.iconst 1, 1) := by decide +kernel
theorem de_M_seize_29 : decode bc_M_seize 29 = .ok (.goto 4, 3) := by decide +kernel
theorem de_M_seize_32 : decode bc_M_seize 32 = .ok (.iconst 0, 1) := by decide +kernel
theorem de_M_seize_33 : decode bc_M_seize 33 = .ok (.istore 5, 2) := by decide +kernel
theorem de_M_seize_35 : decode bc_M_seize 35 = .ok (.iload 5, 2) := by decide +kernel
theorem de_M_seize_37 : decode bc_M_seize 37 = .ok (.ifCond .eq 28, 3) := by decide +kernel
theorem de_M_seize_40 : decode bc_M_seize 40 = .ok (.aload_n 0, 1) := by decide +kernel
theorem de_M_seize_41 : decode bc_M_seize 41 = .ok (.iload_n 2, 1) := by decide +kernel
theorem de_M_seize_42 : decode bc_M_seize 42 = .ok (.invokevirtual 115, 3) := by decide +kernel
theorem de_M_seize_45 : decode bc_M_seize 45 = .ok (.iload_n 3, 1) := by decide +kernel
theorem de_M_seize_46 : decode bc_M_seize 46 = .ok (.if_icmp .lt 19, 3) := by decide +kernel
theorem de_M_seize_49 : decode bc_M_seize 49 = .ok (.aload_n 0, 1) := by decide +kernel
theorem de_M_seize_50 : decode bc_M_seize 50 = .ok (.getfield 50, 3) := by decide +kernel
theorem de_M_seize_53 : decode bc_M_seize 53 = .ok (.iconst 4, 1) := by decide +kernel
theorem de_M_seize_54 : decode bc_M_seize 54 = .ok (.iload_n 1, 1) := by decide +kernel
theorem de_M_seize_55 : decode bc_M_seize 55 = .ok (.imul, 1) := by decide +kernel
theorem de_M_seize_56 : decode bc_M_seize 56 = .ok (.iload_n 2, 1) := by decide +kernel
theorem de_M_seize_57 : decode bc_M_seize 57 = .ok (.iadd, 1) := by decide +kernel
theorem de_M_seize_58 : decode bc_M_seize 58 = .ok (.dup2, 1) := by decide +kernel
theorem de_M_seize_59 : decode bc_M_seize 59 = .ok (.iaload, 1) := by decide +kernel
theorem de_M_seize_60 : decode bc_M_seize 60 = .ok (.iload_n 3, 1) := by decide +kernel
theorem de_M_seize_61 : decode bc_M_seize 61 = .ok (.iadd, 1) := by decide +kernel
theorem de_M_seize_62 : decode bc_M_seize 62 = .ok (.iastore, 1) := by decide +kernel
theorem de_M_seize_63 : decode bc_M_seize 63 = .ok (.iconst 1, 1) := by decide +kernel
theorem de_M_seize_64 : decode bc_M_seize 64 = .ok (.ireturn, 1) := by decide +kernel
theorem de_M_seize_65 : decode bc_M_seize 65 = .ok (.iload 5, 2) := by decide +kernel
theorem de_M_seize_67 : decode bc_M_seize 67 = .ok (.ifCond .eq 31, 3) := by decide +kernel
theorem de_M_seize_70 : decode bc_M_seize 70 = .ok (.aload_n 0, 1) := by decide +kernel
theorem de_M_seize_71 : decode bc_M_seize 71 = .ok (.getfield 56, 3) := by decide +kernel
theorem de_M_seize_74 : decode bc_M_seize 74 = .ok (.iload_n 2, 1) := by decide +kernel
theorem de_M_seize_75 : decode bc_M_seize 75 = .ok (.baload, 1) := by decide +kernel
theorem de_M_seize_76 : decode bc_M_seize 76 = .ok (.ifCond .eq 22, 3) := by decide +kernel
theorem de_M_seize_79 : decode bc_M_seize 79 = .ok (.aload_n 0, 1) := by decide +kernel
theorem de_M_seize_80 : decode bc_M_seize 80 = .ok (.iload_n 1, 1) := by decide +kernel
theorem de_M_seize_81 : decode bc_M_seize 81 = .ok (.iload_n 2, 1) := by decide +kernel
theorem de_M_seize_82 : decode bc_M_seize 82 = .ok (.invokevirtual 126, 3) := by decide +kernel
theorem de_M_seize_85 : decode bc_M_seize 85 = .ok (.iload_n 3, 1) := by decide +kernel
theorem de_M_seize_86 : decode bc_M_seize 86 = .ok (.if_icmp .lt 12, 3) := by decide +kernel
theorem de_M_seize_89 : decode bc_M_seize 89 = .ok (.aload_n 0, 1) := by decide +kernel
theorem de_M_seize_90 : decode bc_M_seize 90 = .ok (.iload_n 1, 1) := by decide +kernel
theorem de_M_seize_91 : decode bc_M_seize 91 = .ok (.iload_n 2, 1) := by decide +kernel
theorem de_M_seize_92 : decode bc_M_seize 92 = .ok (.iload_n 3, 1) := by decide +kernel
theorem de_M_seize_93 : decode bc_M_seize 93 = .ok (.invokevirtual 130, 3) := by decide +kernel
theorem de_M_seize_96 : decode bc_M_seize 96 = .ok (.iconst 1, 1) := by decide +kernel
theorem de_M_seize_97 : decode bc_M_seize 97 = .ok (.ireturn, 1) := by decide +kernel
theorem de_M_seize_98 : decode bc_M_seize 98 = .ok (.aload_n 0, 1) := by decide +kernel
theorem de_M_seize_99 : decode bc_M_seize 99 = .ok (.getfield 25, 3) := by decide +kernel
theorem de_M_seize_102 : decode bc_M_seize 102 = .ok (.iload_n 1, 1) := by decide +kernel
theorem de_M_seize_103 : decode bc_M_seize 103 = .ok (.iconst 4, 1) := by decide +kernel
theorem de_M_seize_104 : decode bc_M_seize 104 = .ok (.iastore, 1) := by decide +kernel
theorem de_M_seize_105 : decode bc_M_seize 105 = .ok (.aload_n 0, 1) := by decide +kernel
theorem de_M_seize_106 : decode bc_M_seize 106 = .ok (.getfield 35, 3) := by decide +kernel
theorem de_M_seize_109 : decode bc_M_seize 109 = .ok (.iload_n 1, 1) := by decide +kernel
theorem de_M_seize_110 : decode bc_M_seize 110 = .ok (.aload_n 0, 1) := by decide +kernel
theorem de_M_seize_111 : decode bc_M_seize 111 = .ok (.getfield 134, 3) := by decide +kernel
theorem de_M_seize_114 : decode bc_M_seize 114 = .ok (.iastore, 1) := by decide +kernel
theorem de_M_seize_115 : decode bc_M_seize 115 = .ok (.aload_n 0, 1) := by decide +kernel
theorem de_M_seize_116 : decode bc_M_seize 116 = .ok (.dup, 1) := by decide +kernel
theorem de_M_seize_117 : decode bc_M_seize 117 = .ok (.getfield 134, 3) := by decide +kernel
theorem de_M_seize_120 : decode bc_M_seize 120 = .ok (.iconst 1, 1) := by decide +kernel
theorem de_M_seize_121 : decode bc_M_seize 121 = .ok (.iadd, 1) := by decide +kernel
theorem de_M_seize_122 : decode bc_M_seize 122 = .ok (.putfield 134, 3) := by decide +kernel
theorem de_M_seize_125 : decode bc_M_seize 125 = .ok (.aload_n 0, 1) := by decide +kernel
theorem de_M_seize_126 : decode bc_M_seize 126 = .ok (.getfield 38, 3) := by decide +kernel
theorem de_M_seize_129 : decode bc_M_seize 129 = .ok (.iload_n 1, 1) := by decide +kernel
theorem de_M_seize_130 : decode bc_M_seize 130 = .ok (.aload_n 0, 1) := by decide +kernel
theorem de_M_seize_131 : decode bc_M_seize 131 = .ok (.getfield 118, 3) := by decide +kernel
theorem de_M_seize_134 : decode bc_M_seize 134 = .ok (.lastore, 1) := by decide +kernel
theorem de_M_seize_135 : decode bc_M_seize 135 = .ok (.iconst 0, 1) := by decide +kernel
theorem de_M_seize_136 : decode bc_M_seize 136 = .ok (.ireturn, 1) := by decide +kernel
theorem de_M_release_0 : decode bc_M_release 0 = .ok (.iconst 4, 1) := by decide +kernel
theorem de_M_release_1 : decode bc_M_release 1 = .ok (.iload_n 1, 1) := by decide +kernel
theorem de_M_release_2 : decode bc_M_release 2 = .ok (.imul, 1) := by decide +kernel
theorem de_M_release_3 : decode bc_M_release 3 = .ok (.iload_n 2, 1) := by decide +kernel
theorem de_M_release_4 : decode bc_M_release 4 = .ok (.iadd, 1) := by decide +kernel
theorem de_M_release_5 : decode bc_M_release 5 = .ok (.istore 4, 2) := by decide +kernel
theorem de_M_release_7 : decode bc_M_release 7 = .ok (.aload_n 0, 1) := by decide +kernel
theorem de_M_release_8 : decode bc_M_release 8 = .ok (.getfield 50, 3) := by decide +kernel
theorem de_M_release_11 : decode bc_M_release 11 = .ok (.iload 4, 2) := by decide +kernel
theorem de_M_release_13 : decode bc_M_release 13 = .ok (.aload_n 0, 1) := by decide +kernel
theorem de_M_release_14 : decode bc_M_release 14 = .ok (.getfield 50, 3) := by decide +kernel
theorem de_M_release_17 : decode bc_M_release 17 = .ok (.iload 4, 2) := by decide +kernel
theorem de_M_release_19 : decode bc_M_release 19 = .ok (.iaload, 1) := by decide +kernel
theorem de_M_release_20 : decode bc_M_release 20 = .ok (.iload_n 3, 1) := by decide +kernel
theorem de_M_release_21 : decode bc_M_release 21 = .ok (.if_icmp .le 15, 3) := by decide +kernel
theorem de_M_release_24 : decode bc_M_release 24 = .ok (.aload_n 0, 1) := by decide +kernel
theorem de_M_release_25 : decode bc_M_release 25 = .ok (.getfield 50, 3) := by decide +kernel
theorem de_M_release_28 : decode bc_M_release 28 = .ok (.iload 4, 2) := by decide +kernel
theorem de_M_release_30 : decode bc_M_release 30 = .ok (.iaload, 1) := by decide +kernel
theorem de_M_release_31 : decode bc_M_release 31 = .ok (.iload_n 3, 1) := by decide +kernel
theorem de_M_release_32 : decode bc_M_release 32 = .ok (.isub, 1) := by decide +kernel
theorem de_M_release_33 : decode bc_M_release 33 = .ok (.goto 4, 3) := by decide +kernel
theorem de_M_release_36 : decode bc_M_release 36 = .ok (.iconst 0, 1) := by decide +kernel
theorem de_M_release_37 : decode bc_M_release 37 = .ok (.iastore, 1) := by decide +kernel
theorem de_M_release_38 : decode bc_M_release 38 = .ok (.aload_n 0, 1) := by decide +kernel
theorem de_M_release_39 : decode bc_M_release 39 = .ok (.iload_n 2, 1) := by decide +kernel
theorem de_M_release_40 : decode bc_M_release 40 = .ok (.invokevirtual 98, 3) := by decide +kernel
theorem de_M_release_43 : decode bc_M_release 43 = .ok (.return_, 1) := by decide +kernel
theorem de_M_holds_0 : decode bc_M_holds 0 = .ok (.aload_n 0, 1) := by decide +kernel
theorem de_M_holds_1 : decode bc_M_holds 1 = .ok (.getfield 44, 3) := by decide +kernel
theorem de_M_holds_4 : decode bc_M_holds 4 = .ok (.iload_n 1, 1) := by decide +kernel
theorem de_M_holds_5 : decode bc_M_holds 5 = .ok (.iaload, 1) := by decide +kernel
theorem de_M_holds_6 : decode bc_M_holds 6 = .ok (.istore_n 2, 1) := by decide +kernel
theorem de_M_holds_7 : decode bc_M_holds 7 = .ok (.aload_n 0, 1) := by decide +kernel
theorem de_M_holds_8 : decode bc_M_holds 8 = .ok (.getfield 41, 3) := by decide +kernel
theorem de_M_holds_11 : decode bc_M_holds 11 = .ok (.iload_n 1, 1) := by decide +kernel
theorem de_M_holds_12 : decode bc_M_holds 12 = .ok (.iaload, 1) := by decide +kernel
theorem de_M_holds_13 : decode bc_M_holds 13 = .ok (.iconst 4, 1) := by decide +kernel
theorem de_M_holds_14 : decode bc_M_holds 14 = .ok (.if_icmp .ne 31, 3) := by decide +kernel
theorem de_M_holds_17 : decode bc_M_holds 17 = .ok (.aload_n 0, 1) := by decide +kernel
theorem de_M_holds_18 : decode bc_M_holds 18 = .ok (.getfield 69, 3) := by decide +kernel
theorem de_M_holds_21 : decode bc_M_holds 21 = .ok (.iload_n 2, 1) := by decide +kernel
theorem de_M_holds_22 : decode bc_M_holds 22 = .ok (.iaload, 1) := by decide +kernel
theorem de_M_holds_23 : decode bc_M_holds 23 = .ok (.aload_n 0, 1) := by decide +kernel
theorem de_M_holds_24 : decode bc_M_holds 24 = .ok (.getfield 47, 3) := by decide +kernel
theorem de_M_holds_27 : decode bc_M_holds 27 = .ok (.iload_n 1, 1) := by decide +kernel
theorem de_M_holds_28 : decode bc_M_holds 28 = .ok (.iaload, 1) := by decide +kernel
theorem de_M_holds_29 : decode bc_M_holds 29 = .ok (.iadd, 1) := by decide +kernel
theorem de_M_holds_30 : decode bc_M_holds 30 = .ok (.aload_n 0, 1) := by decide +kernel
theorem de_M_holds_31 : decode bc_M_holds 31 = .ok (.getfield 66, 3) := by decide +kernel
theorem de_M_holds_34 : decode bc_M_holds 34 = .ok (.iload_n 2, 1) := by decide +kernel
theorem de_M_holds_35 : decode bc_M_holds 35 = .ok (.iaload, 1) := by decide +kernel
theorem de_M_holds_36 : decode bc_M_holds 36 = .ok (.if_icmp .gt 7, 3) := by decide +kernel
theorem de_M_holds_39 : decode bc_M_holds 39 = .ok (.iconst 1, 1) := by decide +kernel
theorem de_M_holds_40 : decode bc_M_holds 40 = .ok (.goto 4, 3) := by decide +kernel
theorem de_M_holds_43 : decode bc_M_holds 43 = .ok (.iconst 0, 1) := by decide +kernel
theorem de_M_holds_44 : decode bc_M_holds 44 = .ok (.ireturn, 1) := by decide +kernel
theorem de_M_holds_45 : decode bc_M_holds 45 = .ok (.aload_n 0, 1) := by decide +kernel
theorem de_M_holds_46 : decode bc_M_holds 46 = .ok (.getfield 41, 3) := by decide +kernel
theorem de_M_holds_49 : decode bc_M_holds 49 = .ok (.iload_n 1, 1) := by decide +kernel
theorem de_M_holds_50 : decode bc_M_holds 50 = .ok (.iaload, 1) := by decide +kernel
theorem de_M_holds_51 : decode bc_M_holds 51 = .ok (.iconst 5, 1) := by decide +kernel
theorem de_M_holds_52 : decode bc_M_holds 52 = .ok (.if_icmp .ne 24, 3) := by decide +kernel
theorem de_M_holds_55 : decode bc_M_holds 55 = .ok (.aload_n 0, 1) := by decide +kernel
theorem de_M_holds_56 : decode bc_M_holds 56 = .ok (.getfield 69, 3) := by decide +kernel
theorem de_M_holds_59 : decode bc_M_holds 59 = .ok (.iload_n 2, 1) := by decide +kernel
theorem de_M_holds_60 : decode bc_M_holds 60 = .ok (.iaload, 1) := by decide +kernel
theorem de_M_holds_61 : decode bc_M_holds 61 = .ok (.aload_n 0, 1) := by decide +kernel
theorem de_M_holds_62 : decode bc_M_holds 62 = .ok (.getfield 47, 3) := by decide +kernel
theorem de_M_holds_65 : decode bc_M_holds 65 = .ok (.iload_n 1, 1) := by decide +kernel
theorem de_M_holds_66 : decode bc_M_holds 66 = .ok (.iaload, 1) := by decide +kernel
theorem de_M_holds_67 : decode bc_M_holds 67 = .ok (.if_icmp .lt 7, 3) := by decide +kernel
theorem de_M_holds_70 : decode bc_M_holds 70 = .ok (.iconst 1, 1) := by decide +kernel
theorem de_M_holds_71 : decode bc_M_holds 71 = .ok (.goto 4, 3) := by decide +kernel
theorem de_M_holds_74 : decode bc_M_holds 74 = .ok (.iconst 0, 1) := by decide +kernel
theorem de_M_holds_75 : decode bc_M_holds 75 = .ok (.ireturn, 1) := by decide +kernel
theorem de_M_holds_76 : decode bc_M_holds 76 = .ok (.iload_n 2, 1) := by decide +kernel
theorem de_M_holds_77 : decode bc_M_holds 77 = .ok (.aload_n 0, 1) := by decide +kernel
theorem de_M_holds_78 : decode bc_M_holds 78 = .ok (.getfield 78, 3) := by decide +kernel
theorem de_M_holds_81 : decode bc_M_holds 81 = .ok (.if_icmp .ge 14, 3) := by decide +kernel
theorem de_M_holds_84 : decode bc_M_holds 84 = .ok (.aload_n 0, 1) := by decide +kernel
theorem de_M_holds_85 : decode bc_M_holds 85 = .ok (.getfield 25, 3) := by decide +kernel
theorem de_M_holds_88 : decode bc_M_holds 88 = .ok (.iload_n 2, 1) := by decide +kernel
theorem de_M_holds_89 : decode bc_M_holds 89 = .ok (.iaload, 1) := by decide +kernel
theorem de_M_holds_90 : decode bc_M_holds 90 = .ok (.bipush 6, 2) := by decide +kernel
theorem de_M_holds_92 : decode bc_M_holds 92 = .ok (.if_icmp .lt 7, 3) := by decide +kernel
theorem de_M_holds_95 : decode bc_M_holds 95 = .ok (.iconst 1, 1) := by decide +kernel
theorem de_M_holds_96 : decode bc_M_holds 96 = .ok (.goto 4, 3) := by decide +kernel
theorem de_M_holds_99 : decode bc_M_holds 99 = .ok (.iconst 0, 1) := by decide +kernel
theorem de_M_holds_100 : decode bc_M_holds 100 = .ok (.ireturn, 1) := by decide +kernel
theorem de_M_pour_0 : decode bc_M_pour 0 = .ok (.aload_n 0, 1) := by decide +kernel
theorem de_M_pour_1 : decode bc_M_pour 1 = .ok (.getfield 41, 3) := by decide +kernel
theorem de_M_pour_4 : decode bc_M_pour 4 = .ok (.iload_n 1, 1) := by decide +kernel
theorem de_M_pour_5 : decode bc_M_pour 5 = .ok (.iaload, 1) := by decide +kernel
theorem de_M_pour_6 : decode bc_M_pour 6 = .ok (.bipush 6, 2) := by decide +kernel
theorem de_M_pour_8 : decode bc_M_pour 8 = .ok (.if_icmp .ge 43, 3) := by decide +kernel
theorem de_M_pour_11 : decode bc_M_pour 11 = .ok (.aload_n 0, 1) := by decide +kernel
theorem de_M_pour_12 : decode bc_M_pour 12 = .ok (.getfield 69, 3) := by decide +kernel
theorem de_M_pour_15 : decode bc_M_pour 15 = .ok (.aload_n 0, 1) := by decide +kernel
theorem de_M_pour_16 : decode bc_M_pour 16 = .ok (.getfield 44, 3) := by decide +kernel
theorem de_M_pour_19 : decode bc_M_pour 19 = .ok (.iload_n 1, 1) := by decide +kernel
theorem de_M_pour_20 : decode bc_M_pour 20 = .ok (.iaload, 1) := by decide +kernel
theorem de_M_pour_21 : decode bc_M_pour 21 = .ok (.dup2, 1) := by decide +kernel
theorem de_M_pour_22 : decode bc_M_pour 22 = .ok (.iaload, 1) := by decide +kernel
theorem de_M_pour_23 : decode bc_M_pour 23 = .ok (.aload_n 0, 1) := by decide +kernel
theorem de_M_pour_24 : decode bc_M_pour 24 = .ok (.getfield 41, 3) := by decide +kernel
theorem de_M_pour_27 : decode bc_M_pour 27 = .ok (.iload_n 1, 1) := by decide +kernel
theorem de_M_pour_28 : decode bc_M_pour 28 = .ok (.iaload, 1) := by decide +kernel
theorem de_M_pour_29 : decode bc_M_pour 29 = .ok (.iconst 4, 1) := by decide +kernel
theorem de_M_pour_30 : decode bc_M_pour 30 = .ok (.if_icmp .ne 12, 3) := by decide +kernel
theorem de_M_pour_33 : decode bc_M_pour 33 = .ok (.aload_n 0, 1) := by decide +kernel
theorem de_M_pour_34 : decode bc_M_pour 34 = .ok (.getfield 47, 3) := by decide +kernel
theorem de_M_pour_37 : decode bc_M_pour 37 = .ok (.iload_n 1, 1) := by decide +kernel
theorem de_M_pour_38 : decode bc_M_pour 38 = .ok (.iaload, 1) := by decide +kernel
theorem de_M_pour_39 : decode bc_M_pour 39 = .ok (.goto 10, 3) := by decide +kernel
theorem de_M_pour_42 : decode bc_M_pour 42 = .ok (.aload_n 0, 1) := by decide +kernel
theorem de_M_pour_43 : decode bc_M_pour 43 = .ok (.getfield 47, 3) := by decide +kernel
theorem de_M_pour_46 : decode bc_M_pour 46 = .ok (.iload_n 1, 1) := by decide +kernel
theorem de_M_pour_47 : decode bc_M_pour 47 = .ok (.iaload, 1) := by decide +kernel
theorem de_M_pour_48 : decode bc_M_pour 48 = .ok (.ineg, 1) := by decide +kernel
theorem de_M_pour_49 : decode bc_M_pour 49 = .ok (.iadd, 1) := by decide +kernel
theorem de_M_pour_50 : decode bc_M_pour 50 = .ok (.iastore, 1) := by decide +kernel
theorem de_M_pour_51 : decode bc_M_pour 51 = .ok (.return_, 1) := by decide +kernel
theorem de_M_goOver_0 : decode bc_M_goOver 0 = .ok (.iconst (-1), 1) := by decide +kernel
theorem de_M_goOver_1 : decode bc_M_goOver 1 = .ok (.istore_n 1, 1) := by decide +kernel
theorem de_M_goOver_2 : decode bc_M_goOver 2 = .ok (.iconst 0, 1) := by decide +kernel
theorem de_M_goOver_3 : decode bc_M_goOver 3 = .ok (.istore_n 2, 1) := by decide +kernel
theorem de_M_goOver_4 : decode bc_M_goOver 4 = .ok (.iload_n 2, 1) := by decide +kernel
theorem de_M_goOver_5 : decode bc_M_goOver 5 = .ok (.bipush 12, 2) := by decide +kernel
theorem de_M_goOver_7 : decode bc_M_goOver 7 = .ok (.if_icmp .ge 117, 3) := by decide +kernel
theorem de_M_goOver_10 : decode bc_M_goOver 10 = .ok (.iconst (-1), 1) := by decide +kernel
theorem de_M_goOver_11 : decode bc_M_goOver 11 = .ok (.istore_n 3, 1) := by decide +kernel
theorem de_M_goOver_12 : decode bc_M_goOver 12 = .ok (.iconst 0, 1) := by decide +kernel
theorem de_M_goOver_13 : decode bc_M_goOver 13 = .ok (.istore 4, 2) := by decide +kernel
theorem de_M_goOver_15 : decode bc_M_goOver 15 = .ok (.iload 4, 2) := by decide +kernel
theorem de_M_goOver_17 : decode bc_M_goOver 17 = .ok (.aload_n 0, 1) := by decide +kernel
theorem de_M_goOver_18 : decode bc_M_goOver 18 = .ok (.getfield 78, 3) := by decide +kernel
theorem de_M_goOver_21 : decode bc_M_goOver 21 = .ok (.if_icmp .ge 54, 3) := by decide +kernel
theorem de_M_goOver_24 : decode bc_M_goOver 24 = .ok (.aload_n 0, 1) := by decide +kernel
theorem de_M_goOver_25 : decode bc_M_goOver 25 = .ok (.getfield 25, 3) := by decide +kernel
theorem de_M_goOver_28 : decode bc_M_goOver 28 = .ok (.iload 4, 2) := by decide +kernel
theorem de_M_goOver_30 : decode bc_M_goOver 30 = .ok (.iaload, 1) := by decide +kernel
theorem de_M_goOver_31 : decode bc_M_goOver 31 = .ok (.iconst 5, 1) := by decide +kernel
theorem de_M_goOver_32 : decode bc_M_goOver 32 = .ok (.if_icmp .ne 37, 3) := by decide +kernel
theorem de_M_goOver_35 : decode bc_M_goOver 35 = .ok (.aload_n 0, 1) := by decide +kernel
theorem de_M_goOver_36 : decode bc_M_goOver 36 = .ok (.getfield 35, 3) := by decide +kernel
theorem de_M_goOver_39 : decode bc_M_goOver 39 = .ok (.iload 4, 2) := by decide +kernel
theorem de_M_goOver_41 : decode bc_M_goOver 41 = .ok (.iaload, 1) := by decide +kernel
theorem de_M_goOver_42 : decode bc_M_goOver 42 = .ok (.iload_n 1, 1) := by decide +kernel
theorem de_M_goOver_43 : decode bc_M_goOver 43 = .ok (.if_icmp .le 26, 3) := by decide +kernel
theorem de_M_goOver_46 : decode bc_M_goOver 46 = .ok (.iload_n 3, 1) := by decide +kernel
theorem de_M_goOver_47 : decode bc_M_goOver 47 = .ok (.ifCond .lt 19, 3) := by decide +kernel
theorem de_M_goOver_50 : decode bc_M_goOver 50 = .ok (.aload_n 0, 1) := by decide +kernel
theorem de_M_goOver_51 : decode bc_M_goOver 51 = .ok (.getfield 35, 3) := by decide +kernel
theorem de_M_goOver_54 : decode bc_M_goOver 54 = .ok (.iload 4, 2) := by decide +kernel
theorem de_M_goOver_56 : decode bc_M_goOver 56 = .ok (.iaload, 1) := by decide +kernel
theorem de_M_goOver_57 : decode bc_M_goOver 57 = .ok (.aload_n 0, 1) := by decide +kernel
theorem de_M_goOver_58 : decode bc_M_goOver 58 = .ok (.getfield 35, 3) := by decide +kernel
theorem de_M_goOver_61 : decode bc_M_goOver 61 = .ok (.iload_n 3, 1) := by decide +kernel
theorem de_M_goOver_62 : decode bc_M_goOver 62 = .ok (.iaload, 1) := by decide +kernel
theorem de_M_goOver_63 : decode bc_M_goOver 63 = .ok (.if_icmp .ge 6, 3) := by decide +kernel
theorem de_M_goOver_66 : decode bc_M_goOver 66 = .ok (.iload 4, 2) := by decide +kernel
theorem de_M_goOver_68 : decode bc_M_goOver 68 = .ok (.istore_n 3, 1) := by decide +kernel
theorem de_M_goOver_69 : decode bc_M_goOver 69 = .ok (.iinc 4 1, 3) := by decide +kernel
theorem de_M_goOver_72 : decode bc_M_goOver 72 = .ok (.goto (-57), 3) := by decide +kernel
theorem de_M_goOver_75 : decode bc_M_goOver 75 = .ok (.iload_n 3, 1) := by decide +kernel
theorem de_M_goOver_76 : decode bc_M_goOver 76 = .ok (.ifCond .ge 4, 3) := by decide +kernel
theorem de_M_goOver_79 : decode bc_M_goOver 79 = .ok (.return_, 1) := by decide +kernel
theorem de_M_goOver_80 : decode bc_M_goOver 80 = .ok (.aload_n 0, 1) := by decide +kernel
theorem de_M_goOver_81 : decode bc_M_goOver 81 = .ok (.getfield 35, 3) := by decide +kernel
theorem de_M_goOver_84 : decode bc_M_goOver 84 = .ok (.iload_n 3, 1) := by decide +kernel
theorem de_M_goOver_85 : decode bc_M_goOver 85 = .ok (.iaload, 1) := by decide +kernel
theorem de_M_goOver_86 : decode bc_M_goOver 86 = .ok (.istore_n 1, 1) := by decide +kernel
theorem de_M_goOver_87 : decode bc_M_goOver 87 = .ok (.aload_n 0, 1) := by decide +kernel
theorem de_M_goOver_88 : decode bc_M_goOver 88 = .ok (.aload_n 0, 1) := by decide +kernel
theorem de_M_goOver_89 : decode bc_M_goOver 89 = .ok (.iload_n 3, 1) := by decide +kernel
theorem de_M_goOver_90 : decode bc_M_goOver 90 = .ok (.invokevirtual 109, 3) := by decide +kernel
theorem de_M_goOver_93 : decode bc_M_goOver 93 = .ok (.invokevirtual 143, 3) := by decide +kernel
theorem de_M_goOver_96 : decode bc_M_goOver 96 = .ok (.ifCond .eq 22, 3) := by decide +kernel
theorem de_M_goOver_99 : decode bc_M_goOver 99 = .ok (.aload_n 0, 1) := by decide +kernel
theorem de_M_goOver_100 : decode bc_M_goOver 100 = .ok (.aload_n 0, 1) := by decide +kernel
theorem de_M_goOver_101 : decode bc_M_goOver 101 = .ok (.iload_n 3, 1) := by decide +kernel
theorem de_M_goOver_102 : decode bc_M_goOver 102 = .ok (.invokevirtual 109, 3) := by decide +kernel
theorem de_M_goOver_105 : decode bc_M_goOver 105 = .ok (.invokevirtual 146, 3) := by decide +kernel
theorem de_M_goOver_108 : decode bc_M_goOver 108 = .ok (.aload_n 0, 1) := by decide +kernel
theorem de_M_goOver_109 : decode bc_M_goOver 109 = .ok (.iload_n 3, 1) := by decide +kernel
theorem de_M_goOver_110 : decode bc_M_goOver 110 = .ok (.iconst 1, 1) := by decide +kernel
theorem de_M_goOver_111 : decode bc_M_goOver 111 = .ok (.aload_n 0, 1) := by decide +kernel
theorem de_M_goOver_112 : decode bc_M_goOver 112 = .ok (.getfield 118, 3) := by decide +kernel
theorem de_M_goOver_115 : decode bc_M_goOver 115 = .ok (.invokevirtual 122, 3) := by decide +kernel
theorem de_M_goOver_118 : decode bc_M_goOver 118 = .ok (.iinc 2 1, 3) := by decide +kernel
theorem de_M_goOver_121 : decode bc_M_goOver 121 = .ok (.goto (-117), 3) := by decide +kernel
theorem de_M_goOver_124 : decode bc_M_goOver 124 = .ok (.return_, 1) := by decide +kernel
theorem de_M_activate_0 : decode bc_M_activate 0 = .ok (.aload_n 0, 1) := by decide +kernel
theorem de_M_activate_1 : decode bc_M_activate 1 = .ok (.iload_n 1, 1) := by decide +kernel
theorem de_M_activate_2 : decode bc_M_activate 2 = .ok (.invokevirtual 87, 3) := by decide +kernel
theorem de_M_activate_5 : decode bc_M_activate 5 = .ok (.ifCond .ne 33, 3) := by decide +kernel
theorem de_M_activate_8 : decode bc_M_activate 8 = .ok (.aload_n 0, 1) := by decide +kernel
theorem de_M_activate_9 : decode bc_M_activate 9 = .ok (.getfield 25, 3) := by decide +kernel
theorem de_M_activate_12 : decode bc_M_activate 12 = .ok (.iload_n 1, 1) := by decide +kernel
theorem de_M_activate_13 : decode bc_M_activate 13 = .ok (.iaload, 1) := by decide +kernel
theorem de_M_activate_14 : decode bc_M_activate 14 = .ok (.ifCond .eq 13, 3) := by decide +kernel
theorem de_M_activate_17 : decode bc_M_activate 17 = .ok (.aload_n 0, 1) := by decide +kernel
theorem de_M_activate_18 : decode bc_M_activate 18 = .ok (.getfield 25, 3) := by decide +kernel
theorem de_M_activate_21 : decode bc_M_activate 21 = .ok (.iload_n 1, 1) := by decide +kernel
theorem de_M_activate_22 : decode bc_M_activate 22 = .ok (.iaload, 1) := by decide +kernel
theorem de_M_activate_23 : decode bc_M_activate 23 = .ok (.iconst 3, 1) := by decide +kernel
theorem de_M_activate_24 : decode bc_M_activate 24 = .ok (.if_icmp .ne 14, 3) := by decide +kernel
theorem de_M_activate_27 : decode bc_M_activate 27 = .ok (.aload_n 0, 1) := by decide +kernel
theorem de_M_activate_28 : decode bc_M_activate 28 = .ok (.iload_n 2, 1) := by decide +kernel
theorem de_M_activate_29 : decode bc_M_activate 29 = .ok (.iconst 0, 1) := by decide +kernel
theorem de_M_activate_30 : decode bc_M_activate 30 = .ok (.ldc 82, 2) := by decide +kernel
theorem de_M_activate_32 : decode bc_M_activate 32 = .ok (.invokevirtual 83, 3) := by decide +kernel
theorem de_M_activate_35 : decode bc_M_activate 35 = .ok (.ifCond .ne 5, 3) := by decide +kernel
theorem de_M_activate_38 : decode bc_M_activate 38 = .ok (.iconst 0, 1) := by decide +kernel
theorem de_M_activate_39 : decode bc_M_activate 39 = .ok (.ireturn, 1) := by decide +kernel
theorem de_M_activate_40 : decode bc_M_activate 40 = .ok (.aload_n 0, 1) := by decide +kernel
theorem de_M_activate_41 : decode bc_M_activate 41 = .ok (.iload_n 1, 1) := by decide +kernel
theorem de_M_activate_42 : decode bc_M_activate 42 = .ok (.iconst 1, 1) := by decide +kernel
theorem de_M_activate_43 : decode bc_M_activate 43 = .ok (.aload_n 0, 1) := by decide +kernel
theorem de_M_activate_44 : decode bc_M_activate 44 = .ok (.getfield 118, 3) := by decide +kernel
theorem de_M_activate_47 : decode bc_M_activate 47 = .ok (.iload_n 2, 1) := by decide +kernel
theorem de_M_activate_48 : decode bc_M_activate 48 = .ok (.i2l, 1) := by decide +kernel
theorem de_M_activate_49 : decode bc_M_activate 49 = .ok (.ladd, 1) := by decide +kernel
theorem de_M_activate_50 : decode bc_M_activate 50 = .ok (.invokevirtual 122, 3) := by decide +kernel
theorem de_M_activate_53 : decode bc_M_activate 53 = .ok (.iconst 1, 1) := by decide +kernel
theorem de_M_activate_54 : decode bc_M_activate 54 = .ok (.ireturn, 1) := by decide +kernel
theorem de_M_kill_0 : decode bc_M_kill 0 = .ok (.aload_n 0, 1) := by decide +kernel
theorem de_M_kill_1 : decode bc_M_kill 1 = .ok (.iload_n 1, 1) := by decide +kernel
theorem de_M_kill_2 : decode bc_M_kill 2 = .ok (.invokevirtual 87, 3) := by decide +kernel
theorem de_M_kill_5 : decode bc_M_kill 5 = .ok (.ifCond .ne 14, 3) := by decide +kernel
theorem de_M_kill_8 : decode bc_M_kill 8 = .ok (.aload_n 0, 1) := by decide +kernel
theorem de_M_kill_9 : decode bc_M_kill 9 = .ok (.getfield 25, 3) := by decide +kernel
theorem de_M_kill_12 : decode bc_M_kill 12 = .ok (.iload_n 1, 1) := by decide +kernel
theorem de_M_kill_13 : decode bc_M_kill 13 = .ok (.iaload, 1) := by decide +kernel
theorem de_M_kill_14 : decode bc_M_kill 14 = .ok (.bipush 6, 2) := by decide +kernel
theorem de_M_kill_16 : decode bc_M_kill 16 = .ok (.if_icmp .lt 5, 3) := by decide +kernel
theorem de_M_kill_19 : decode bc_M_kill 19 = .ok (.iconst 0, 1) := by decide +kernel
theorem de_M_kill_20 : decode bc_M_kill 20 = .ok (.ireturn, 1) := by decide +kernel
theorem de_M_kill_21 : decode bc_M_kill 21 = .ok (.aload_n 0, 1) := by decide +kernel
theorem de_M_kill_22 : decode bc_M_kill 22 = .ok (.getfield 25, 3) := by decide +kernel
theorem de_M_kill_25 : decode bc_M_kill 25 = .ok (.iload_n 1, 1) := by decide +kernel
theorem de_M_kill_26 : decode bc_M_kill 26 = .ok (.iaload, 1) := by decide +kernel
theorem de_M_kill_27 : decode bc_M_kill 27 = .ok (.iconst 4, 1) := by decide +kernel
theorem de_M_kill_28 : decode bc_M_kill 28 = .ok (.if_icmp .ne 16, 3) := by decide +kernel
theorem de_M_kill_31 : decode bc_M_kill 31 = .ok (.aload_n 0, 1) := by decide +kernel
theorem de_M_kill_32 : decode bc_M_kill 32 = .ok (.getfield 44, 3) := by decide +kernel
theorem de_M_kill_35 : decode bc_M_kill 35 = .ok (.aload_n 0, 1) := by decide +kernel
theorem de_M_kill_36 : decode bc_M_kill 36 = .ok (.iload_n 1, 1) := by decide +kernel
theorem de_M_kill_37 : decode bc_M_kill 37 = .ok (.invokevirtual 109, 3) := by decide +kernel
theorem de_M_kill_40 : decode bc_M_kill 40 = .ok (.iaload, 1) := by decide +kernel
theorem de_M_kill_41 : decode bc_M_kill 41 = .ok (.goto 4, 3) := by decide +kernel
theorem de_M_kill_44 : decode bc_M_kill 44 = .ok (.iconst (-1), 1) := by decide +kernel
theorem de_M_kill_45 : decode bc_M_kill 45 = .ok (.istore_n 2, 1) := by decide +kernel
theorem de_M_kill_46 : decode bc_M_kill 46 = .ok (.aload_n 0, 1) := by decide +kernel
theorem de_M_kill_47 : decode bc_M_kill 47 = .ok (.getfield 32, 3) := by decide +kernel
theorem de_M_kill_50 : decode bc_M_kill 50 = .ok (.iload_n 1, 1) := by decide +kernel
theorem de_M_kill_51 : decode bc_M_kill 51 = .ok (.iconst (-1), 1) := by decide +kernel
theorem de_M_kill_52 : decode bc_M_kill 52 = .ok (.iastore, 1) := by decide +kernel
theorem de_M_kill_53 : decode bc_M_kill 53 = .ok (.aload_n 0, 1) := by decide +kernel
theorem de_M_kill_54 : decode bc_M_kill 54 = .ok (.getfield 25, 3) := by decide +kernel
theorem de_M_kill_57 : decode bc_M_kill 57 = .ok (.iload_n 1, 1) := by decide +kernel
theorem de_M_kill_58 : decode bc_M_kill 58 = .ok (.bipush 7, 2) := by decide +kernel
theorem de_M_kill_60 : decode bc_M_kill 60 = .ok (.iastore, 1) := by decide +kernel
theorem de_M_kill_61 : decode bc_M_kill 61 = .ok (.aload_n 0, 1) := by decide +kernel
theorem de_M_kill_62 : decode bc_M_kill 62 = .ok (.getfield 22, 3) := by decide +kernel
theorem de_M_kill_65 : decode bc_M_kill 65 = .ok (.iload_n 1, 1) := by decide +kernel
theorem de_M_kill_66 : decode bc_M_kill 66 = .ok (.iaload, 1) := by decide +kernel
theorem de_M_kill_67 : decode bc_M_kill 67 = .ok (.istore_n 3, 1) := by decide +kernel
theorem de_M_kill_68 : decode bc_M_kill 68 = .ok (.iload_n 3, 1) := by decide +kernel
theorem de_M_kill_69 : decode bc_M_kill 69 = .ok (.aload_n 0, 1) := by decide +kernel
theorem de_M_kill_70 : decode bc_M_kill 70 = .ok (.getfield 19, 3) := by decide +kernel
theorem de_M_kill_73 : decode bc_M_kill 73 = .ok (.iload_n 1, 1) := by decide +kernel
theorem de_M_kill_74 : decode bc_M_kill 74 = .ok (.iaload, 1) := by decide +kernel
theorem de_M_kill_75 : decode bc_M_kill 75 = .ok (.if_icmp .ge 51, 3) := by decide +kernel
theorem de_M_kill_78 : decode bc_M_kill 78 = .ok (.aload_n 0, 1) := by decide +kernel
theorem de_M_kill_79 : decode bc_M_kill 79 = .ok (.getfield 41, 3) := by decide +kernel
theorem de_M_kill_82 : decode bc_M_kill 82 = .ok (.bipush 10, 2) := by decide +kernel
theorem de_M_kill_84 : decode bc_M_kill 84 = .ok (.iload_n 1, 1) := by decide +kernel
theorem de_M_kill_85 : decode bc_M_kill 85 = .ok (.imul, 1) := by decide +kernel
theorem de_M_kill_86 : decode bc_M_kill 86 = .ok (.iload_n 3, 1) := by decide +kernel
theorem de_M_kill_87 : decode bc_M_kill 87 = .ok (.iadd, 1) := by decide +kernel
theorem de_M_kill_88 : decode bc_M_kill 88 = .ok (.iaload, 1) := by decide +kernel
theorem de_M_kill_89 : decode bc_M_kill 89 = .ok (.iconst 3, 1) := by decide +kernel
theorem de_M_kill_90 : decode bc_M_kill 90 = .ok (.if_icmp .ne 30, 3) := by decide +kernel
theorem de_M_kill_93 : decode bc_M_kill 93 = .ok (.aload_n 0, 1) := by decide +kernel
theorem de_M_kill_94 : decode bc_M_kill 94 = .ok (.iload_n 1, 1) := by decide +kernel
theorem de_M_kill_95 : decode bc_M_kill 95 = .ok (.aload_n 0, 1) := by decide +kernel
theorem de_M_kill_96 : decode bc_M_kill 96 = .ok (.getfield 44, 3) := by decide +kernel
theorem de_M_kill_99 : decode bc_M_kill 99 = .ok (.bipush 10, 2) := by decide +kernel
theorem de_M_kill_101 : decode bc_M_kill 101 = .ok (.iload_n 1, 1) := by decide +kernel
theorem de_M_kill_102 : decode bc_M_kill 102 = .ok (.imul, 1) := by decide +kernel
theorem de_M_kill_103 : decode bc_M_kill 103 = .ok (.iload_n 3, 1) := by decide +kernel
theorem de_M_kill_104 : decode bc_M_kill 104 = .ok (.iadd, 1) := by decide +kernel
theorem de_M_kill_105 : decode bc_M_kill 105 = .ok (.iaload, 1) := by decide +kernel
theorem de_M_kill_106 : decode bc_M_kill 106 = .ok (.aload_n 0, 1) := by decide +kernel
theorem de_M_kill_107 : decode bc_M_kill 107 = .ok (.getfield 47, 3) := by decide +kernel
theorem de_M_kill_110 : decode bc_M_kill 110 = .ok (.bipush 10, 2) := by decide +kernel
theorem de_M_kill_112 : decode bc_M_kill 112 = .ok (.iload_n 1, 1) := by decide +kernel
theorem de_M_kill_113 : decode bc_M_kill 113 = .ok (.imul, 1) := by decide +kernel
theorem de_M_kill_114 : decode bc_M_kill 114 = .ok (.iload_n 3, 1) := by decide +kernel
theorem de_M_kill_115 : decode bc_M_kill 115 = .ok (.iadd, 1) := by decide +kernel
theorem de_M_kill_116 : decode bc_M_kill 116 = .ok (.iaload, 1) := by decide +kernel
theorem de_M_kill_117 : decode bc_M_kill 117 = .ok (.invokevirtual 152, 3) := by decide +kernel
theorem de_M_kill_120 : decode bc_M_kill 120 = .ok (.iinc 3 1, 3) := by decide +kernel
theorem de_M_kill_123 : decode bc_M_kill 123 = .ok (.goto (-55), 3) := by decide +kernel
theorem de_M_kill_126 : decode bc_M_kill 126 = .ok (.iload_n 2, 1) := by decide +kernel
theorem de_M_kill_127 : decode bc_M_kill 127 = .ok (.ifCond .lt 8, 3) := by decide +kernel
theorem de_M_kill_130 : decode bc_M_kill 130 = .ok (.aload_n 0, 1) := by decide +kernel
theorem de_M_kill_131 : decode bc_M_kill 131 = .ok (.iload_n 2, 1) := by decide +kernel
theorem de_M_kill_132 : decode bc_M_kill 132 = .ok (.invokevirtual 98, 3) := by decide +kernel
theorem de_M_kill_135 : decode bc_M_kill 135 = .ok (.iconst 1, 1) := by decide +kernel
theorem de_M_kill_136 : decode bc_M_kill 136 = .ok (.ireturn, 1) := by decide +kernel
theorem de_M_perform_0 : decode bc_M_perform 0 = .ok (.aload_n 0, 1) := by decide +kernel
theorem de_M_perform_1 : decode bc_M_perform 1 = .ok (.getfield 44, 3) := by decide +kernel
theorem de_M_perform_4 : decode bc_M_perform 4 = .ok (.iload_n 2, 1) := by decide +kernel
theorem de_M_perform_5 : decode bc_M_perform 5 = .ok (.iaload, 1) := by decide +kernel
theorem de_M_perform_6 : decode bc_M_perform 6 = .ok (.istore_n 3, 1) := by decide +kernel
theorem de_M_perform_7 : decode bc_M_perform 7 = .ok (.aload_n 0, 1) := by decide +kernel
theorem de_M_perform_8 : decode bc_M_perform 8 = .ok (.getfield 41, 3) := by decide +kernel
theorem de_M_perform_11 : decode bc_M_perform 11 = .ok (.iload_n 2, 1) := by decide +kernel
theorem de_M_perform_12 : decode bc_M_perform 12 = .ok (.iaload, 1) := by decide +kernel
theorem de_M_perform_13 : decode bc_M_perform 13 = .ok (.tableswitch 146 0 9 #[55, 70, 79, 92, 146, 146, 146, 106, 115, 123], 55) := by decide +kernel
theorem de_M_perform_68 : decode bc_M_perform 68 = .ok (.aload_n 0, 1) := by decide +kernel
theorem de_M_perform_69 : decode bc_M_perform 69 = .ok (.iload_n 1, 1) := by decide +kernel
theorem de_M_perform_70 : decode bc_M_perform 70 = .ok (.iconst 2, 1) := by decide +kernel
theorem de_M_perform_71 : decode bc_M_perform 71 = .ok (.aload_n 0, 1) := by decide +kernel
theorem de_M_perform_72 : decode bc_M_perform 72 = .ok (.getfield 118, 3) := by decide +kernel
theorem de_M_perform_75 : decode bc_M_perform 75 = .ok (.iload_n 3, 1) := by decide +kernel
theorem de_M_perform_76 : decode bc_M_perform 76 = .ok (.i2l, 1) := by decide +kernel
theorem de_M_perform_77 : decode bc_M_perform 77 = .ok (.ladd, 1) := by decide +kernel
theorem de_M_perform_78 : decode bc_M_perform 78 = .ok (.invokevirtual 122, 3) := by decide +kernel
theorem de_M_perform_81 : decode bc_M_perform 81 = .ok (.iconst 0, 1) := by decide +kernel
theorem de_M_perform_82 : decode bc_M_perform 82 = .ok (.ireturn, 1) := by decide +kernel
theorem de_M_perform_83 : decode bc_M_perform 83 = .ok (.aload_n 0, 1) := by decide +kernel
theorem de_M_perform_84 : decode bc_M_perform 84 = .ok (.getfield 25, 3) := by decide +kernel
theorem de_M_perform_87 : decode bc_M_perform 87 = .ok (.iload_n 1, 1) := by decide +kernel
