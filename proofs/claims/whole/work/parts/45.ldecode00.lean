theorem de_W_law_0 : decode bc_W_law 0 = .ok (.new 7, 3) := by decide +kernel
theorem de_W_law_3 : decode bc_W_law 3 = .ok (.dup, 1) := by decide +kernel
theorem de_W_law_4 : decode bc_W_law 4 = .ok (.invokespecial 9, 3) := by decide +kernel
theorem de_W_law_7 : decode bc_W_law 7 = .ok (.astore_n 1, 1) := by decide +kernel
theorem de_W_law_8 : decode bc_W_law 8 = .ok (.new 10, 3) := by decide +kernel
theorem de_W_law_11 : decode bc_W_law 11 = .ok (.dup, 1) := by decide +kernel
theorem de_W_law_12 : decode bc_W_law 12 = .ok (.invokespecial 12, 3) := by decide +kernel
theorem de_W_law_15 : decode bc_W_law 15 = .ok (.astore_n 2, 1) := by decide +kernel
theorem de_W_law_16 : decode bc_W_law 16 = .ok (.iconst 0, 1) := by decide +kernel
theorem de_W_law_17 : decode bc_W_law 17 = .ok (.istore_n 3, 1) := by decide +kernel
theorem de_W_law_18 : decode bc_W_law 18 = .ok (.iload_n 3, 1) := by decide +kernel
theorem de_W_law_19 : decode bc_W_law 19 = .ok (.aload_n 0, 1) := by decide +kernel
theorem de_W_law_20 : decode bc_W_law 20 = .ok (.arraylength, 1) := by decide +kernel
theorem de_W_law_21 : decode bc_W_law 21 = .ok (.iconst 5, 1) := by decide +kernel
theorem de_W_law_22 : decode bc_W_law 22 = .ok (.isub, 1) := by decide +kernel
theorem de_W_law_23 : decode bc_W_law 23 = .ok (.if_icmp .gt 711, 3) := by decide +kernel
theorem de_W_law_26 : decode bc_W_law 26 = .ok (.aload_n 0, 1) := by decide +kernel
theorem de_W_law_27 : decode bc_W_law 27 = .ok (.iload_n 3, 1) := by decide +kernel
theorem de_W_law_28 : decode bc_W_law 28 = .ok (.iaload, 1) := by decide +kernel
theorem de_W_law_29 : decode bc_W_law 29 = .ok (.bipush 31, 2) := by decide +kernel
theorem de_W_law_31 : decode bc_W_law 31 = .ok (.iand, 1) := by decide +kernel
theorem de_W_law_32 : decode bc_W_law 32 = .ok (.tableswitch 696 0 19 #[96, 139, 192, 251, 294, 327, 350, 373, 436, 450, 464, 487, 510, 543, 566, 589, 613, 637, 660, 673], 96) := by decide +kernel
theorem de_W_law_128 : decode bc_W_law 128 = .ok (.aload_n 1, 1) := by decide +kernel
theorem de_W_law_129 : decode bc_W_law 129 = .ok (.aload_n 0, 1) := by decide +kernel
theorem de_W_law_130 : decode bc_W_law 130 = .ok (.iload_n 3, 1) := by decide +kernel
theorem de_W_law_131 : decode bc_W_law 131 = .ok (.iconst 1, 1) := by decide +kernel
theorem de_W_law_132 : decode bc_W_law 132 = .ok (.iadd, 1) := by decide +kernel
theorem de_W_law_133 : decode bc_W_law 133 = .ok (.iaload, 1) := by decide +kernel
theorem de_W_law_134 : decode bc_W_law 134 = .ok (.aload_n 0, 1) := by decide +kernel
theorem de_W_law_135 : decode bc_W_law 135 = .ok (.iload_n 3, 1) := by decide +kernel
theorem de_W_law_136 : decode bc_W_law 136 = .ok (.iconst 2, 1) := by decide +kernel
theorem de_W_law_137 : decode bc_W_law 137 = .ok (.iadd, 1) := by decide +kernel
theorem de_W_law_138 : decode bc_W_law 138 = .ok (.iaload, 1) := by decide +kernel
theorem de_W_law_139 : decode bc_W_law 139 = .ok (.aload_n 0, 1) := by decide +kernel
theorem de_W_law_140 : decode bc_W_law 140 = .ok (.iload_n 3, 1) := by decide +kernel
theorem de_W_law_141 : decode bc_W_law 141 = .ok (.iconst 3, 1) := by decide +kernel
theorem de_W_law_142 : decode bc_W_law 142 = .ok (.iadd, 1) := by decide +kernel
theorem de_W_law_143 : decode bc_W_law 143 = .ok (.iaload, 1) := by decide +kernel
theorem de_W_law_144 : decode bc_W_law 144 = .ok (.invokevirtual 13, 3) := by decide +kernel
theorem de_W_law_147 : decode bc_W_law 147 = .ok (.aload_n 2, 1) := by decide +kernel
theorem de_W_law_148 : decode bc_W_law 148 = .ok (.aload_n 0, 1) := by decide +kernel
theorem de_W_law_149 : decode bc_W_law 149 = .ok (.iload_n 3, 1) := by decide +kernel
theorem de_W_law_150 : decode bc_W_law 150 = .ok (.iconst 1, 1) := by decide +kernel
theorem de_W_law_151 : decode bc_W_law 151 = .ok (.iadd, 1) := by decide +kernel
theorem de_W_law_152 : decode bc_W_law 152 = .ok (.iaload, 1) := by decide +kernel
theorem de_W_law_153 : decode bc_W_law 153 = .ok (.aload_n 0, 1) := by decide +kernel
theorem de_W_law_154 : decode bc_W_law 154 = .ok (.iload_n 3, 1) := by decide +kernel
theorem de_W_law_155 : decode bc_W_law 155 = .ok (.iconst 2, 1) := by decide +kernel
theorem de_W_law_156 : decode bc_W_law 156 = .ok (.iadd, 1) := by decide +kernel
theorem de_W_law_157 : decode bc_W_law 157 = .ok (.iaload, 1) := by decide +kernel
theorem de_W_law_158 : decode bc_W_law 158 = .ok (.aload_n 0, 1) := by decide +kernel
theorem de_W_law_159 : decode bc_W_law 159 = .ok (.iload_n 3, 1) := by decide +kernel
theorem de_W_law_160 : decode bc_W_law 160 = .ok (.iconst 3, 1) := by decide +kernel
theorem de_W_law_161 : decode bc_W_law 161 = .ok (.iadd, 1) := by decide +kernel
theorem de_W_law_162 : decode bc_W_law 162 = .ok (.iaload, 1) := by decide +kernel
theorem de_W_law_163 : decode bc_W_law 163 = .ok (.invokevirtual 17, 3) := by decide +kernel
theorem de_W_law_166 : decode bc_W_law 166 = .ok (.if_icmp .eq 562, 3) := by decide +kernel
theorem de_W_law_169 : decode bc_W_law 169 = .ok (.iconst 0, 1) := by decide +kernel
theorem de_W_law_170 : decode bc_W_law 170 = .ok (.ireturn, 1) := by decide +kernel
theorem de_W_law_171 : decode bc_W_law 171 = .ok (.aload_n 1, 1) := by decide +kernel
theorem de_W_law_172 : decode bc_W_law 172 = .ok (.aload_n 0, 1) := by decide +kernel
theorem de_W_law_173 : decode bc_W_law 173 = .ok (.iload_n 3, 1) := by decide +kernel
theorem de_W_law_174 : decode bc_W_law 174 = .ok (.iconst 1, 1) := by decide +kernel
theorem de_W_law_175 : decode bc_W_law 175 = .ok (.iadd, 1) := by decide +kernel
theorem de_W_law_176 : decode bc_W_law 176 = .ok (.iaload, 1) := by decide +kernel
theorem de_W_law_177 : decode bc_W_law 177 = .ok (.aload_n 0, 1) := by decide +kernel
theorem de_W_law_178 : decode bc_W_law 178 = .ok (.iload_n 3, 1) := by decide +kernel
theorem de_W_law_179 : decode bc_W_law 179 = .ok (.iconst 2, 1) := by decide +kernel
theorem de_W_law_180 : decode bc_W_law 180 = .ok (.iadd, 1) := by decide +kernel
theorem de_W_law_181 : decode bc_W_law 181 = .ok (.iaload, 1) := by decide +kernel
theorem de_W_law_182 : decode bc_W_law 182 = .ok (.aload_n 0, 1) := by decide +kernel
theorem de_W_law_183 : decode bc_W_law 183 = .ok (.iload_n 3, 1) := by decide +kernel
theorem de_W_law_184 : decode bc_W_law 184 = .ok (.iconst 3, 1) := by decide +kernel
theorem de_W_law_185 : decode bc_W_law 185 = .ok (.iadd, 1) := by decide +kernel
theorem de_W_law_186 : decode bc_W_law 186 = .ok (.iaload, 1) := by decide +kernel
theorem de_W_law_187 : decode bc_W_law 187 = .ok (.aload_n 0, 1) := by decide +kernel
theorem de_W_law_188 : decode bc_W_law 188 = .ok (.iload_n 3, 1) := by decide +kernel
theorem de_W_law_189 : decode bc_W_law 189 = .ok (.iconst 4, 1) := by decide +kernel
theorem de_W_law_190 : decode bc_W_law 190 = .ok (.iadd, 1) := by decide +kernel
theorem de_W_law_191 : decode bc_W_law 191 = .ok (.iaload, 1) := by decide +kernel
