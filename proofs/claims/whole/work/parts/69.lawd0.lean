theorem d_Law_law_0 : decode b_Law_law 0 = .ok (.new 8, 3) := by decide +kernel
theorem d_Law_law_3 : decode b_Law_law 3 = .ok (.dup, 1) := by decide +kernel
theorem d_Law_law_4 : decode b_Law_law 4 = .ok (.aload_n 0, 1) := by decide +kernel
theorem d_Law_law_5 : decode b_Law_law 5 = .ok (.iconst 0, 1) := by decide +kernel
theorem d_Law_law_6 : decode b_Law_law 6 = .ok (.invokestatic 15, 3) := by decide +kernel
theorem d_Law_law_9 : decode b_Law_law 9 = .ok (.invokespecial 21, 3) := by decide +kernel
theorem d_Law_law_12 : decode b_Law_law 12 = .ok (.astore_n 1, 1) := by decide +kernel
theorem d_Law_law_13 : decode b_Law_law 13 = .ok (.new 24, 3) := by decide +kernel
theorem d_Law_law_16 : decode b_Law_law 16 = .ok (.dup, 1) := by decide +kernel
theorem d_Law_law_17 : decode b_Law_law 17 = .ok (.aload_n 0, 1) := by decide +kernel
theorem d_Law_law_18 : decode b_Law_law 18 = .ok (.iconst 0, 1) := by decide +kernel
theorem d_Law_law_19 : decode b_Law_law 19 = .ok (.invokestatic 15, 3) := by decide +kernel
theorem d_Law_law_22 : decode b_Law_law 22 = .ok (.invokespecial 26, 3) := by decide +kernel
theorem d_Law_law_25 : decode b_Law_law 25 = .ok (.astore_n 2, 1) := by decide +kernel
theorem d_Law_law_26 : decode b_Law_law 26 = .ok (.iconst 1, 1) := by decide +kernel
theorem d_Law_law_27 : decode b_Law_law 27 = .ok (.newarray .long, 2) := by decide +kernel
theorem d_Law_law_29 : decode b_Law_law 29 = .ok (.astore_n 3, 1) := by decide +kernel
theorem d_Law_law_30 : decode b_Law_law 30 = .ok (.iconst 1, 1) := by decide +kernel
theorem d_Law_law_31 : decode b_Law_law 31 = .ok (.istore 4, 2) := by decide +kernel
theorem d_Law_law_33 : decode b_Law_law 33 = .ok (.iload 4, 2) := by decide +kernel
theorem d_Law_law_35 : decode b_Law_law 35 = .ok (.aload_n 0, 1) := by decide +kernel
theorem d_Law_law_36 : decode b_Law_law 36 = .ok (.arraylength, 1) := by decide +kernel
theorem d_Law_law_37 : decode b_Law_law 37 = .ok (.iconst 5, 1) := by decide +kernel
theorem d_Law_law_38 : decode b_Law_law 38 = .ok (.isub, 1) := by decide +kernel
theorem d_Law_law_39 : decode b_Law_law 39 = .ok (.if_icmp .gt 763, 3) := by decide +kernel
theorem d_Law_law_42 : decode b_Law_law 42 = .ok (.aload_n 0, 1) := by decide +kernel
theorem d_Law_law_43 : decode b_Law_law 43 = .ok (.iload 4, 2) := by decide +kernel
theorem d_Law_law_45 : decode b_Law_law 45 = .ok (.iaload, 1) := by decide +kernel
theorem d_Law_law_46 : decode b_Law_law 46 = .ok (.bipush 31, 2) := by decide +kernel
theorem d_Law_law_48 : decode b_Law_law 48 = .ok (.iand, 1) := by decide +kernel
theorem d_Law_law_49 : decode b_Law_law 49 = .ok (.tableswitch 747 0 16 #[83, 108, 177, 242, 279, 341, 366, 391, 452, 501, 538, 575, 619, 632, 645, 683, 721], 83) := by decide +kernel
theorem d_Law_law_132 : decode b_Law_law 132 = .ok (.aload_n 1, 1) := by decide +kernel
theorem d_Law_law_133 : decode b_Law_law 133 = .ok (.aload_n 0, 1) := by decide +kernel
theorem d_Law_law_134 : decode b_Law_law 134 = .ok (.iload 4, 2) := by decide +kernel
theorem d_Law_law_136 : decode b_Law_law 136 = .ok (.iconst 1, 1) := by decide +kernel
theorem d_Law_law_137 : decode b_Law_law 137 = .ok (.iadd, 1) := by decide +kernel
theorem d_Law_law_138 : decode b_Law_law 138 = .ok (.iaload, 1) := by decide +kernel
theorem d_Law_law_139 : decode b_Law_law 139 = .ok (.invokevirtual 27, 3) := by decide +kernel
theorem d_Law_law_142 : decode b_Law_law 142 = .ok (.aload_n 2, 1) := by decide +kernel
theorem d_Law_law_143 : decode b_Law_law 143 = .ok (.aload_n 0, 1) := by decide +kernel
theorem d_Law_law_144 : decode b_Law_law 144 = .ok (.iload 4, 2) := by decide +kernel
theorem d_Law_law_146 : decode b_Law_law 146 = .ok (.iconst 1, 1) := by decide +kernel
theorem d_Law_law_147 : decode b_Law_law 147 = .ok (.iadd, 1) := by decide +kernel
theorem d_Law_law_148 : decode b_Law_law 148 = .ok (.iaload, 1) := by decide +kernel
theorem d_Law_law_149 : decode b_Law_law 149 = .ok (.invokevirtual 31, 3) := by decide +kernel
theorem d_Law_law_152 : decode b_Law_law 152 = .ok (.if_icmp .eq 644, 3) := by decide +kernel
theorem d_Law_law_157 : decode b_Law_law 157 = .ok (.aload_n 1, 1) := by decide +kernel
theorem d_Law_law_158 : decode b_Law_law 158 = .ok (.aload_n 0, 1) := by decide +kernel
theorem d_Law_law_159 : decode b_Law_law 159 = .ok (.iload 4, 2) := by decide +kernel
theorem d_Law_law_161 : decode b_Law_law 161 = .ok (.iconst 1, 1) := by decide +kernel
theorem d_Law_law_162 : decode b_Law_law 162 = .ok (.iadd, 1) := by decide +kernel
theorem d_Law_law_163 : decode b_Law_law 163 = .ok (.iaload, 1) := by decide +kernel
theorem d_Law_law_164 : decode b_Law_law 164 = .ok (.aload_n 0, 1) := by decide +kernel
theorem d_Law_law_165 : decode b_Law_law 165 = .ok (.iload 4, 2) := by decide +kernel
theorem d_Law_law_167 : decode b_Law_law 167 = .ok (.iconst 2, 1) := by decide +kernel
theorem d_Law_law_168 : decode b_Law_law 168 = .ok (.iadd, 1) := by decide +kernel
theorem d_Law_law_169 : decode b_Law_law 169 = .ok (.iaload, 1) := by decide +kernel
theorem d_Law_law_170 : decode b_Law_law 170 = .ok (.i2l, 1) := by decide +kernel
theorem d_Law_law_171 : decode b_Law_law 171 = .ok (.bipush 32, 2) := by decide +kernel
theorem d_Law_law_173 : decode b_Law_law 173 = .ok (.lshl, 1) := by decide +kernel
