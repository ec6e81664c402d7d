/-! ===== the law's instructions, 0 to 74 ===== -/
theorem dL_0 : decode code 0 = .ok (.new 7, 3) := by decide +kernel
theorem dL_3 : decode code 3 = .ok (.dup, 1) := by decide +kernel
theorem dL_4 : decode code 4 = .ok (.invokespecial 9, 3) := by decide +kernel
theorem dL_7 : decode code 7 = .ok (.astore_n 1, 1) := by decide +kernel
theorem dL_8 : decode code 8 = .ok (.new 10, 3) := by decide +kernel
theorem dL_11 : decode code 11 = .ok (.dup, 1) := by decide +kernel
theorem dL_12 : decode code 12 = .ok (.invokespecial 12, 3) := by decide +kernel
theorem dL_15 : decode code 15 = .ok (.astore_n 2, 1) := by decide +kernel
theorem dL_16 : decode code 16 = .ok (.iconst 0, 1) := by decide +kernel
theorem dL_17 : decode code 17 = .ok (.istore_n 3, 1) := by decide +kernel
theorem dL_18 : decode code 18 = .ok (.iload_n 3, 1) := by decide +kernel
theorem dL_19 : decode code 19 = .ok (.aload_n 0, 1) := by decide +kernel
theorem dL_20 : decode code 20 = .ok (.arraylength, 1) := by decide +kernel
theorem dL_21 : decode code 21 = .ok (.iconst 4, 1) := by decide +kernel
theorem dL_22 : decode code 22 = .ok (.isub, 1) := by decide +kernel
theorem dL_23 : decode code 23 = .ok (.if_icmp .gt 657, 3) := by decide +kernel
theorem dL_26 : decode code 26 = .ok (.aload_n 0, 1) := by decide +kernel
theorem dL_27 : decode code 27 = .ok (.iload_n 3, 1) := by decide +kernel
theorem dL_28 : decode code 28 = .ok (.iaload, 1) := by decide +kernel
theorem dL_29 : decode code 29 = .ok (.bipush 31, 2) := by decide +kernel
theorem dL_31 : decode code 31 = .ok (.iand, 1) := by decide +kernel
theorem dL_32 : decode code 32 = .ok (.tableswitch 642 0 24 #[116, 139, 152, 165, 178, 211, 244, 267, 300, 333, 356, 369, 382, 415, 428, 451, 464, 497, 510, 523, 536, 579, 592, 605, 628], 116) := by decide +kernel
theorem dL_148 : decode code 148 = .ok (.aload_n 1, 1) := by decide +kernel
theorem dL_149 : decode code 149 = .ok (.aload_n 0, 1) := by decide +kernel
theorem dL_150 : decode code 150 = .ok (.iload_n 3, 1) := by decide +kernel
theorem dL_151 : decode code 151 = .ok (.iconst 1, 1) := by decide +kernel
theorem dL_152 : decode code 152 = .ok (.iadd, 1) := by decide +kernel
theorem dL_153 : decode code 153 = .ok (.iaload, 1) := by decide +kernel
theorem dL_154 : decode code 154 = .ok (.invokevirtual 13, 3) := by decide +kernel
theorem dL_157 : decode code 157 = .ok (.aload_n 2, 1) := by decide +kernel
theorem dL_158 : decode code 158 = .ok (.aload_n 0, 1) := by decide +kernel
theorem dL_159 : decode code 159 = .ok (.iload_n 3, 1) := by decide +kernel
theorem dL_160 : decode code 160 = .ok (.iconst 1, 1) := by decide +kernel
theorem dL_161 : decode code 161 = .ok (.iadd, 1) := by decide +kernel
theorem dL_162 : decode code 162 = .ok (.iaload, 1) := by decide +kernel
theorem dL_163 : decode code 163 = .ok (.invokevirtual 17, 3) := by decide +kernel
theorem dL_166 : decode code 166 = .ok (.if_icmp .eq 508, 3) := by decide +kernel
theorem dL_169 : decode code 169 = .ok (.iconst 0, 1) := by decide +kernel
theorem dL_170 : decode code 170 = .ok (.ireturn, 1) := by decide +kernel
theorem dL_171 : decode code 171 = .ok (.aload_n 1, 1) := by decide +kernel
theorem dL_172 : decode code 172 = .ok (.invokevirtual 18, 3) := by decide +kernel
theorem dL_175 : decode code 175 = .ok (.aload_n 2, 1) := by decide +kernel
theorem dL_176 : decode code 176 = .ok (.invokevirtual 22, 3) := by decide +kernel
theorem dL_179 : decode code 179 = .ok (.if_icmp .eq 495, 3) := by decide +kernel
theorem dL_182 : decode code 182 = .ok (.iconst 0, 1) := by decide +kernel
theorem dL_183 : decode code 183 = .ok (.ireturn, 1) := by decide +kernel
theorem dL_184 : decode code 184 = .ok (.aload_n 1, 1) := by decide +kernel
theorem dL_185 : decode code 185 = .ok (.invokevirtual 23, 3) := by decide +kernel
theorem dL_188 : decode code 188 = .ok (.aload_n 2, 1) := by decide +kernel
theorem dL_189 : decode code 189 = .ok (.invokevirtual 26, 3) := by decide +kernel
theorem dL_192 : decode code 192 = .ok (.if_icmp .eq 482, 3) := by decide +kernel
theorem dL_195 : decode code 195 = .ok (.iconst 0, 1) := by decide +kernel
theorem dL_196 : decode code 196 = .ok (.ireturn, 1) := by decide +kernel
theorem dL_197 : decode code 197 = .ok (.aload_n 1, 1) := by decide +kernel
theorem dL_198 : decode code 198 = .ok (.invokevirtual 27, 3) := by decide +kernel
theorem dL_201 : decode code 201 = .ok (.aload_n 2, 1) := by decide +kernel
theorem dL_202 : decode code 202 = .ok (.invokevirtual 30, 3) := by decide +kernel
theorem dL_205 : decode code 205 = .ok (.if_icmp .eq 469, 3) := by decide +kernel
theorem dL_208 : decode code 208 = .ok (.iconst 0, 1) := by decide +kernel
theorem dL_209 : decode code 209 = .ok (.ireturn, 1) := by decide +kernel
theorem dL_210 : decode code 210 = .ok (.aload_n 1, 1) := by decide +kernel
theorem dL_211 : decode code 211 = .ok (.aload_n 0, 1) := by decide +kernel
theorem dL_212 : decode code 212 = .ok (.iload_n 3, 1) := by decide +kernel
theorem dL_213 : decode code 213 = .ok (.iconst 1, 1) := by decide +kernel
theorem dL_214 : decode code 214 = .ok (.iadd, 1) := by decide +kernel
theorem dL_215 : decode code 215 = .ok (.iaload, 1) := by decide +kernel
theorem dL_216 : decode code 216 = .ok (.aload_n 0, 1) := by decide +kernel
theorem dL_217 : decode code 217 = .ok (.iload_n 3, 1) := by decide +kernel
theorem dL_218 : decode code 218 = .ok (.iconst 2, 1) := by decide +kernel
theorem dL_219 : decode code 219 = .ok (.iadd, 1) := by decide +kernel
theorem dL_220 : decode code 220 = .ok (.iaload, 1) := by decide +kernel
theorem dL_221 : decode code 221 = .ok (.invokevirtual 31, 3) := by decide +kernel
theorem dL_224 : decode code 224 = .ok (.aload_n 2, 1) := by decide +kernel
theorem dL_225 : decode code 225 = .ok (.aload_n 0, 1) := by decide +kernel
theorem dL_226 : decode code 226 = .ok (.iload_n 3, 1) := by decide +kernel
