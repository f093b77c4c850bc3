theorem de_W_law_716 : decode bc_W_law 716 = .ok (.iload_n 3, 1) := by decide +kernel
theorem de_W_law_717 : decode bc_W_law 717 = .ok (.iconst 1, 1) := by decide +kernel
theorem de_W_law_718 : decode bc_W_law 718 = .ok (.iadd, 1) := by decide +kernel
theorem de_W_law_719 : decode bc_W_law 719 = .ok (.iaload, 1) := by decide +kernel
theorem de_W_law_720 : decode bc_W_law 720 = .ok (.invokevirtual 106, 3) := by decide +kernel
theorem de_W_law_723 : decode bc_W_law 723 = .ok (.if_icmp .eq 5, 3) := by decide +kernel
theorem de_W_law_726 : decode bc_W_law 726 = .ok (.iconst 0, 1) := by decide +kernel
theorem de_W_law_727 : decode bc_W_law 727 = .ok (.ireturn, 1) := by decide +kernel
theorem de_W_law_728 : decode bc_W_law 728 = .ok (.iinc 3 5, 3) := by decide +kernel
theorem de_W_law_731 : decode bc_W_law 731 = .ok (.goto (-713), 3) := by decide +kernel
theorem de_W_law_734 : decode bc_W_law 734 = .ok (.iconst 1, 1) := by decide +kernel
theorem de_W_law_735 : decode bc_W_law 735 = .ok (.ireturn, 1) := by decide +kernel
