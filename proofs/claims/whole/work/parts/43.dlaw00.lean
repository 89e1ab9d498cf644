theorem d_L_law_0 : decode code 0 = .ok (.new 7, 3) := by decide +kernel
theorem d_L_law_3 : decode code 3 = .ok (.dup, 1) := by decide +kernel
theorem d_L_law_4 : decode code 4 = .ok (.invokespecial 9, 3) := by decide +kernel
theorem d_L_law_7 : decode code 7 = .ok (.astore_n 1, 1) := by decide +kernel
theorem d_L_law_8 : decode code 8 = .ok (.new 10, 3) := by decide +kernel
theorem d_L_law_11 : decode code 11 = .ok (.dup, 1) := by decide +kernel
theorem d_L_law_12 : decode code 12 = .ok (.invokespecial 12, 3) := by decide +kernel
theorem d_L_law_15 : decode code 15 = .ok (.astore_n 2, 1) := by decide +kernel
theorem d_L_law_16 : decode code 16 = .ok (.iconst 0, 1) := by decide +kernel
theorem d_L_law_17 : decode code 17 = .ok (.istore_n 3, 1) := by decide +kernel
theorem d_L_law_18 : decode code 18 = .ok (.iload_n 3, 1) := by decide +kernel
theorem d_L_law_19 : decode code 19 = .ok (.aload_n 0, 1) := by decide +kernel
theorem d_L_law_20 : decode code 20 = .ok (.arraylength, 1) := by decide +kernel
theorem d_L_law_21 : decode code 21 = .ok (.bipush 7, 2) := by decide +kernel
theorem d_L_law_23 : decode code 23 = .ok (.isub, 1) := by decide +kernel
theorem d_L_law_24 : decode code 24 = .ok (.if_icmp .gt 849, 3) := by decide +kernel
theorem d_L_law_27 : decode code 27 = .ok (.aload_n 0, 1) := by decide +kernel
theorem d_L_law_28 : decode code 28 = .ok (.iload_n 3, 1) := by decide +kernel
theorem d_L_law_29 : decode code 29 = .ok (.iaload, 1) := by decide +kernel
theorem d_L_law_30 : decode code 30 = .ok (.bipush 31, 2) := by decide +kernel
theorem d_L_law_32 : decode code 32 = .ok (.iand, 1) := by decide +kernel
theorem d_L_law_33 : decode code 33 = .ok (.tableswitch 834 0 19 #[95, 148, 161, 184, 197, 210, 223, 246, 270, 283, 327, 351, 404, 428, 461, 494, 518, 581, 604, 719], 95) := by decide +kernel
theorem d_L_law_128 : decode code 128 = .ok (.aload_n 1, 1) := by decide +kernel
theorem d_L_law_129 : decode code 129 = .ok (.aload_n 0, 1) := by decide +kernel
theorem d_L_law_130 : decode code 130 = .ok (.iload_n 3, 1) := by decide +kernel
theorem d_L_law_131 : decode code 131 = .ok (.iconst 1, 1) := by decide +kernel
theorem d_L_law_132 : decode code 132 = .ok (.iadd, 1) := by decide +kernel
theorem d_L_law_133 : decode code 133 = .ok (.iaload, 1) := by decide +kernel
theorem d_L_law_134 : decode code 134 = .ok (.i2l, 1) := by decide +kernel
theorem d_L_law_135 : decode code 135 = .ok (.bipush 32, 2) := by decide +kernel
theorem d_L_law_137 : decode code 137 = .ok (.lshl, 1) := by decide +kernel
theorem d_L_law_138 : decode code 138 = .ok (.aload_n 0, 1) := by decide +kernel
theorem d_L_law_139 : decode code 139 = .ok (.iload_n 3, 1) := by decide +kernel
theorem d_L_law_140 : decode code 140 = .ok (.iconst 2, 1) := by decide +kernel
theorem d_L_law_141 : decode code 141 = .ok (.iadd, 1) := by decide +kernel
theorem d_L_law_142 : decode code 142 = .ok (.iaload, 1) := by decide +kernel
theorem d_L_law_143 : decode code 143 = .ok (.i2l, 1) := by decide +kernel
theorem d_L_law_144 : decode code 144 = .ok (.ldc2_w 13, 3) := by decide +kernel
theorem d_L_law_147 : decode code 147 = .ok (.land, 1) := by decide +kernel
theorem d_L_law_148 : decode code 148 = .ok (.lor, 1) := by decide +kernel
theorem d_L_law_149 : decode code 149 = .ok (.invokevirtual 15, 3) := by decide +kernel
theorem d_L_law_152 : decode code 152 = .ok (.aload_n 2, 1) := by decide +kernel
theorem d_L_law_153 : decode code 153 = .ok (.aload_n 0, 1) := by decide +kernel
theorem d_L_law_154 : decode code 154 = .ok (.iload_n 3, 1) := by decide +kernel
theorem d_L_law_155 : decode code 155 = .ok (.iconst 1, 1) := by decide +kernel
theorem d_L_law_156 : decode code 156 = .ok (.iadd, 1) := by decide +kernel
theorem d_L_law_157 : decode code 157 = .ok (.iaload, 1) := by decide +kernel
theorem d_L_law_158 : decode code 158 = .ok (.i2l, 1) := by decide +kernel
theorem d_L_law_159 : decode code 159 = .ok (.bipush 32, 2) := by decide +kernel
theorem d_L_law_161 : decode code 161 = .ok (.lshl, 1) := by decide +kernel
theorem d_L_law_162 : decode code 162 = .ok (.aload_n 0, 1) := by decide +kernel
theorem d_L_law_163 : decode code 163 = .ok (.iload_n 3, 1) := by decide +kernel
theorem d_L_law_164 : decode code 164 = .ok (.iconst 2, 1) := by decide +kernel
theorem d_L_law_165 : decode code 165 = .ok (.iadd, 1) := by decide +kernel
theorem d_L_law_166 : decode code 166 = .ok (.iaload, 1) := by decide +kernel
theorem d_L_law_167 : decode code 167 = .ok (.i2l, 1) := by decide +kernel
theorem d_L_law_168 : decode code 168 = .ok (.ldc2_w 13, 3) := by decide +kernel
theorem d_L_law_171 : decode code 171 = .ok (.land, 1) := by decide +kernel
theorem d_L_law_172 : decode code 172 = .ok (.lor, 1) := by decide +kernel
theorem d_L_law_173 : decode code 173 = .ok (.invokevirtual 19, 3) := by decide +kernel
