/-! the law's instructions -/
theorem dl_0 : decode code 0 = .ok (.new 7, 3) := by decide +kernel
theorem dl_3 : decode code 3 = .ok (.dup, 1) := by decide +kernel
theorem dl_4 : decode code 4 = .ok (.invokespecial 9, 3) := by decide +kernel
theorem dl_7 : decode code 7 = .ok (.astore_n 1, 1) := by decide +kernel
theorem dl_8 : decode code 8 = .ok (.new 10, 3) := by decide +kernel
theorem dl_11 : decode code 11 = .ok (.dup, 1) := by decide +kernel
theorem dl_12 : decode code 12 = .ok (.invokespecial 12, 3) := by decide +kernel
theorem dl_15 : decode code 15 = .ok (.astore_n 2, 1) := by decide +kernel
theorem dl_16 : decode code 16 = .ok (.iconst 0, 1) := by decide +kernel
theorem dl_17 : decode code 17 = .ok (.istore_n 3, 1) := by decide +kernel
theorem dl_18 : decode code 18 = .ok (.iload_n 3, 1) := by decide +kernel
theorem dl_19 : decode code 19 = .ok (.aload_n 0, 1) := by decide +kernel
theorem dl_20 : decode code 20 = .ok (.arraylength, 1) := by decide +kernel
theorem dl_21 : decode code 21 = .ok (.iconst 5, 1) := by decide +kernel
theorem dl_22 : decode code 22 = .ok (.isub, 1) := by decide +kernel
theorem dl_23 : decode code 23 = .ok (.if_icmp .gt 893, 3) := by decide +kernel
theorem dl_26 : decode code 26 = .ok (.aload_n 0, 1) := by decide +kernel
theorem dl_27 : decode code 27 = .ok (.iload_n 3, 1) := by decide +kernel
theorem dl_28 : decode code 28 = .ok (.iaload, 1) := by decide +kernel
theorem dl_29 : decode code 29 = .ok (.bipush 31, 2) := by decide +kernel
theorem dl_31 : decode code 31 = .ok (.iand, 1) := by decide +kernel
theorem dl_32 : decode code 32 = .ok (.tableswitch 878 0 25 #[120, 183, 196, 209, 232, 265, 298, 321, 344, 387, 440, 463, 476, 509, 562, 605, 628, 681, 704, 747, 760, 773, 786, 809, 832, 855], 120) := by decide +kernel
theorem dl_152 : decode code 152 = .ok (.aload_n 1, 1) := by decide +kernel
theorem dl_153 : decode code 153 = .ok (.aload_n 0, 1) := by decide +kernel
theorem dl_154 : decode code 154 = .ok (.iload_n 3, 1) := by decide +kernel
theorem dl_155 : decode code 155 = .ok (.iconst 1, 1) := by decide +kernel
theorem dl_156 : decode code 156 = .ok (.iadd, 1) := by decide +kernel
theorem dl_157 : decode code 157 = .ok (.iaload, 1) := by decide +kernel
theorem dl_158 : decode code 158 = .ok (.aload_n 0, 1) := by decide +kernel
theorem dl_159 : decode code 159 = .ok (.iload_n 3, 1) := by decide +kernel
theorem dl_160 : decode code 160 = .ok (.iconst 2, 1) := by decide +kernel
theorem dl_161 : decode code 161 = .ok (.iadd, 1) := by decide +kernel
theorem dl_162 : decode code 162 = .ok (.iaload, 1) := by decide +kernel
theorem dl_163 : decode code 163 = .ok (.i2l, 1) := by decide +kernel
theorem dl_164 : decode code 164 = .ok (.bipush 32, 2) := by decide +kernel
theorem dl_166 : decode code 166 = .ok (.lshl, 1) := by decide +kernel
theorem dl_167 : decode code 167 = .ok (.aload_n 0, 1) := by decide +kernel
theorem dl_168 : decode code 168 = .ok (.iload_n 3, 1) := by decide +kernel
theorem dl_169 : decode code 169 = .ok (.iconst 3, 1) := by decide +kernel
theorem dl_170 : decode code 170 = .ok (.iadd, 1) := by decide +kernel
theorem dl_171 : decode code 171 = .ok (.iaload, 1) := by decide +kernel
theorem dl_172 : decode code 172 = .ok (.i2l, 1) := by decide +kernel
theorem dl_173 : decode code 173 = .ok (.ldc2_w 13, 3) := by decide +kernel
theorem dl_176 : decode code 176 = .ok (.land, 1) := by decide +kernel
theorem dl_177 : decode code 177 = .ok (.lor, 1) := by decide +kernel
theorem dl_178 : decode code 178 = .ok (.invokevirtual 15, 3) := by decide +kernel
theorem dl_181 : decode code 181 = .ok (.aload_n 2, 1) := by decide +kernel
theorem dl_182 : decode code 182 = .ok (.aload_n 0, 1) := by decide +kernel
theorem dl_183 : decode code 183 = .ok (.iload_n 3, 1) := by decide +kernel
theorem dl_184 : decode code 184 = .ok (.iconst 1, 1) := by decide +kernel
theorem dl_185 : decode code 185 = .ok (.iadd, 1) := by decide +kernel
theorem dl_186 : decode code 186 = .ok (.iaload, 1) := by decide +kernel
theorem dl_187 : decode code 187 = .ok (.aload_n 0, 1) := by decide +kernel
theorem dl_188 : decode code 188 = .ok (.iload_n 3, 1) := by decide +kernel
theorem dl_189 : decode code 189 = .ok (.iconst 2, 1) := by decide +kernel
theorem dl_190 : decode code 190 = .ok (.iadd, 1) := by decide +kernel
theorem dl_191 : decode code 191 = .ok (.iaload, 1) := by decide +kernel
theorem dl_192 : decode code 192 = .ok (.i2l, 1) := by decide +kernel
theorem dl_193 : decode code 193 = .ok (.bipush 32, 2) := by decide +kernel
theorem dl_195 : decode code 195 = .ok (.lshl, 1) := by decide +kernel
theorem dl_196 : decode code 196 = .ok (.aload_n 0, 1) := by decide +kernel
theorem dl_197 : decode code 197 = .ok (.iload_n 3, 1) := by decide +kernel
theorem dl_198 : decode code 198 = .ok (.iconst 3, 1) := by decide +kernel
theorem dl_199 : decode code 199 = .ok (.iadd, 1) := by decide +kernel
theorem dl_200 : decode code 200 = .ok (.iaload, 1) := by decide +kernel
theorem dl_201 : decode code 201 = .ok (.i2l, 1) := by decide +kernel
theorem dl_202 : decode code 202 = .ok (.ldc2_w 13, 3) := by decide +kernel
theorem dl_205 : decode code 205 = .ok (.land, 1) := by decide +kernel
theorem dl_206 : decode code 206 = .ok (.lor, 1) := by decide +kernel
theorem dl_207 : decode code 207 = .ok (.invokevirtual 19, 3) := by decide +kernel
