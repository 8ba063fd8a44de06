theorem d_L_law_0 : decode mb_L_law 0 = .ok (.new 8, 3) := by decide +kernel
theorem d_L_law_3 : decode mb_L_law 3 = .ok (.dup, 1) := by decide +kernel
theorem d_L_law_4 : decode mb_L_law 4 = .ok (.aload_n 0, 1) := by decide +kernel
theorem d_L_law_5 : decode mb_L_law 5 = .ok (.iconst 0, 1) := by decide +kernel
theorem d_L_law_6 : decode mb_L_law 6 = .ok (.invokestatic 40, 3) := by decide +kernel
theorem d_L_law_9 : decode mb_L_law 9 = .ok (.invokespecial 46, 3) := by decide +kernel
theorem d_L_law_12 : decode mb_L_law 12 = .ok (.astore_n 1, 1) := by decide +kernel
theorem d_L_law_13 : decode mb_L_law 13 = .ok (.new 49, 3) := by decide +kernel
theorem d_L_law_16 : decode mb_L_law 16 = .ok (.dup, 1) := by decide +kernel
theorem d_L_law_17 : decode mb_L_law 17 = .ok (.aload_n 0, 1) := by decide +kernel
theorem d_L_law_18 : decode mb_L_law 18 = .ok (.iconst 0, 1) := by decide +kernel
theorem d_L_law_19 : decode mb_L_law 19 = .ok (.invokestatic 40, 3) := by decide +kernel
theorem d_L_law_22 : decode mb_L_law 22 = .ok (.invokespecial 51, 3) := by decide +kernel
theorem d_L_law_25 : decode mb_L_law 25 = .ok (.astore_n 2, 1) := by decide +kernel
theorem d_L_law_26 : decode mb_L_law 26 = .ok (.iconst 1, 1) := by decide +kernel
theorem d_L_law_27 : decode mb_L_law 27 = .ok (.newarray .long, 2) := by decide +kernel
theorem d_L_law_29 : decode mb_L_law 29 = .ok (.astore_n 3, 1) := by decide +kernel
theorem d_L_law_30 : decode mb_L_law 30 = .ok (.iconst 1, 1) := by decide +kernel
theorem d_L_law_31 : decode mb_L_law 31 = .ok (.istore 4, 2) := by decide +kernel
theorem d_L_law_33 : decode mb_L_law 33 = .ok (.iload 4, 2) := by decide +kernel
theorem d_L_law_35 : decode mb_L_law 35 = .ok (.aload_n 0, 1) := by decide +kernel
theorem d_L_law_36 : decode mb_L_law 36 = .ok (.arraylength, 1) := by decide +kernel
theorem d_L_law_37 : decode mb_L_law 37 = .ok (.bipush 7, 2) := by decide +kernel
theorem d_L_law_39 : decode mb_L_law 39 = .ok (.isub, 1) := by decide +kernel
theorem d_L_law_40 : decode mb_L_law 40 = .ok (.if_icmp .gt 971, 3) := by decide +kernel
theorem d_L_law_43 : decode mb_L_law 43 = .ok (.aload_n 0, 1) := by decide +kernel
theorem d_L_law_44 : decode mb_L_law 44 = .ok (.iload 4, 2) := by decide +kernel
theorem d_L_law_46 : decode mb_L_law 46 = .ok (.iaload, 1) := by decide +kernel
theorem d_L_law_47 : decode mb_L_law 47 = .ok (.bipush 15, 2) := by decide +kernel
theorem d_L_law_49 : decode mb_L_law 49 = .ok (.iand, 1) := by decide +kernel
theorem d_L_law_50 : decode mb_L_law 50 = .ok (.tableswitch 955 0 13 #[70, 197, 222, 247, 273, 431, 543, 643, 755, 781, 836, 861, 886, 942], 70) := by decide +kernel
theorem d_L_law_120 : decode mb_L_law 120 = .ok (.aload_n 1, 1) := by decide +kernel
theorem d_L_law_121 : decode mb_L_law 121 = .ok (.aload_n 0, 1) := by decide +kernel
theorem d_L_law_122 : decode mb_L_law 122 = .ok (.iload 4, 2) := by decide +kernel
theorem d_L_law_124 : decode mb_L_law 124 = .ok (.iconst 1, 1) := by decide +kernel
theorem d_L_law_125 : decode mb_L_law 125 = .ok (.iadd, 1) := by decide +kernel
theorem d_L_law_126 : decode mb_L_law 126 = .ok (.iaload, 1) := by decide +kernel
theorem d_L_law_127 : decode mb_L_law 127 = .ok (.aload_n 0, 1) := by decide +kernel
theorem d_L_law_128 : decode mb_L_law 128 = .ok (.iload 4, 2) := by decide +kernel
theorem d_L_law_130 : decode mb_L_law 130 = .ok (.iconst 2, 1) := by decide +kernel
theorem d_L_law_131 : decode mb_L_law 131 = .ok (.iadd, 1) := by decide +kernel
theorem d_L_law_132 : decode mb_L_law 132 = .ok (.iaload, 1) := by decide +kernel
theorem d_L_law_133 : decode mb_L_law 133 = .ok (.aload_n 0, 1) := by decide +kernel
theorem d_L_law_134 : decode mb_L_law 134 = .ok (.iload 4, 2) := by decide +kernel
theorem d_L_law_136 : decode mb_L_law 136 = .ok (.iconst 3, 1) := by decide +kernel
theorem d_L_law_137 : decode mb_L_law 137 = .ok (.iadd, 1) := by decide +kernel
theorem d_L_law_138 : decode mb_L_law 138 = .ok (.iaload, 1) := by decide +kernel
theorem d_L_law_139 : decode mb_L_law 139 = .ok (.i2l, 1) := by decide +kernel
theorem d_L_law_140 : decode mb_L_law 140 = .ok (.bipush 32, 2) := by decide +kernel
theorem d_L_law_142 : decode mb_L_law 142 = .ok (.lshl, 1) := by decide +kernel
theorem d_L_law_143 : decode mb_L_law 143 = .ok (.aload_n 0, 1) := by decide +kernel
theorem d_L_law_144 : decode mb_L_law 144 = .ok (.iload 4, 2) := by decide +kernel
theorem d_L_law_146 : decode mb_L_law 146 = .ok (.iconst 4, 1) := by decide +kernel
theorem d_L_law_147 : decode mb_L_law 147 = .ok (.iadd, 1) := by decide +kernel
theorem d_L_law_148 : decode mb_L_law 148 = .ok (.iaload, 1) := by decide +kernel
theorem d_L_law_149 : decode mb_L_law 149 = .ok (.i2l, 1) := by decide +kernel
theorem d_L_law_150 : decode mb_L_law 150 = .ok (.ldc2_w 52, 3) := by decide +kernel
theorem d_L_law_153 : decode mb_L_law 153 = .ok (.land, 1) := by decide +kernel
theorem d_L_law_154 : decode mb_L_law 154 = .ok (.lor, 1) := by decide +kernel
theorem d_L_law_155 : decode mb_L_law 155 = .ok (.aload_n 0, 1) := by decide +kernel
theorem d_L_law_156 : decode mb_L_law 156 = .ok (.iload 4, 2) := by decide +kernel
theorem d_L_law_158 : decode mb_L_law 158 = .ok (.iconst 5, 1) := by decide +kernel
theorem d_L_law_159 : decode mb_L_law 159 = .ok (.iadd, 1) := by decide +kernel
theorem d_L_law_160 : decode mb_L_law 160 = .ok (.iaload, 1) := by decide +kernel
theorem d_L_law_161 : decode mb_L_law 161 = .ok (.i2l, 1) := by decide +kernel
theorem d_L_law_162 : decode mb_L_law 162 = .ok (.bipush 32, 2) := by decide +kernel
theorem d_L_law_164 : decode mb_L_law 164 = .ok (.lshl, 1) := by decide +kernel
theorem d_L_law_165 : decode mb_L_law 165 = .ok (.aload_n 0, 1) := by decide +kernel
theorem d_L_law_166 : decode mb_L_law 166 = .ok (.iload 4, 2) := by decide +kernel
theorem d_L_law_168 : decode mb_L_law 168 = .ok (.bipush 6, 2) := by decide +kernel
theorem d_L_law_170 : decode mb_L_law 170 = .ok (.iadd, 1) := by decide +kernel
theorem d_L_law_171 : decode mb_L_law 171 = .ok (.iaload, 1) := by decide +kernel
theorem d_L_law_172 : decode mb_L_law 172 = .ok (.i2l, 1) := by decide +kernel
theorem d_L_law_173 : decode mb_L_law 173 = .ok (.ldc2_w 52, 3) := by decide +kernel
theorem d_L_law_176 : decode mb_L_law 176 = .ok (.land, 1) := by decide +kernel
theorem d_L_law_177 : decode mb_L_law 177 = .ok (.lor, 1) := by decide +kernel
theorem d_L_law_178 : decode mb_L_law 178 = .ok (.invokevirtual 54, 3) := by decide +kernel
theorem d_L_law_181 : decode mb_L_law 181 = .ok (.aload_n 2, 1) := by decide +kernel
theorem d_L_law_182 : decode mb_L_law 182 = .ok (.aload_n 0, 1) := by decide +kernel
theorem d_L_law_183 : decode mb_L_law 183 = .ok (.iload 4, 2) := by decide +kernel
theorem d_L_law_185 : decode mb_L_law 185 = .ok (.iconst 1, 1) := by decide +kernel
theorem d_L_law_186 : decode mb_L_law 186 = .ok (.iadd, 1) := by decide +kernel
theorem d_L_law_187 : decode mb_L_law 187 = .ok (.iaload, 1) := by decide +kernel
theorem d_L_law_188 : decode mb_L_law 188 = .ok (.aload_n 0, 1) := by decide +kernel
theorem d_L_law_189 : decode mb_L_law 189 = .ok (.iload 4, 2) := by decide +kernel
theorem d_L_law_191 : decode mb_L_law 191 = .ok (.iconst 2, 1) := by decide +kernel
theorem d_L_law_192 : decode mb_L_law 192 = .ok (.iadd, 1) := by decide +kernel
theorem d_L_law_193 : decode mb_L_law 193 = .ok (.iaload, 1) := by decide +kernel
theorem d_L_law_194 : decode mb_L_law 194 = .ok (.aload_n 0, 1) := by decide +kernel
theorem d_L_law_195 : decode mb_L_law 195 = .ok (.iload 4, 2) := by decide +kernel
