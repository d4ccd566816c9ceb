abbrev b_L_law : ByteArray := code
theorem d_L_law_0 : decode b_L_law 0 = .ok (.new 8, 3) := by decide +kernel
theorem d_L_law_3 : decode b_L_law 3 = .ok (.dup, 1) := by decide +kernel
theorem d_L_law_4 : decode b_L_law 4 = .ok (.invokespecial 72, 3) := by decide +kernel
theorem d_L_law_7 : decode b_L_law 7 = .ok (.astore_n 1, 1) := by decide +kernel
theorem d_L_law_8 : decode b_L_law 8 = .ok (.new 73, 3) := by decide +kernel
theorem d_L_law_11 : decode b_L_law 11 = .ok (.dup, 1) := by decide +kernel
theorem d_L_law_12 : decode b_L_law 12 = .ok (.invokespecial 75, 3) := by decide +kernel
theorem d_L_law_15 : decode b_L_law 15 = .ok (.astore_n 2, 1) := by decide +kernel
theorem d_L_law_16 : decode b_L_law 16 = .ok (.iconst 1, 1) := by decide +kernel
theorem d_L_law_17 : decode b_L_law 17 = .ok (.newarray .long, 2) := by decide +kernel
theorem d_L_law_19 : decode b_L_law 19 = .ok (.astore_n 3, 1) := by decide +kernel
theorem d_L_law_20 : decode b_L_law 20 = .ok (.iconst 0, 1) := by decide +kernel
theorem d_L_law_21 : decode b_L_law 21 = .ok (.istore 4, 2) := by decide +kernel
theorem d_L_law_23 : decode b_L_law 23 = .ok (.iload 4, 2) := by decide +kernel
theorem d_L_law_25 : decode b_L_law 25 = .ok (.aload_n 0, 1) := by decide +kernel
theorem d_L_law_26 : decode b_L_law 26 = .ok (.arraylength, 1) := by decide +kernel
theorem d_L_law_27 : decode b_L_law 27 = .ok (.iconst 5, 1) := by decide +kernel
theorem d_L_law_28 : decode b_L_law 28 = .ok (.isub, 1) := by decide +kernel
theorem d_L_law_29 : decode b_L_law 29 = .ok (.if_icmp .gt (785), 3) := by decide +kernel
theorem d_L_law_32 : decode b_L_law 32 = .ok (.aload_n 0, 1) := by decide +kernel
theorem d_L_law_33 : decode b_L_law 33 = .ok (.iload 4, 2) := by decide +kernel
theorem d_L_law_35 : decode b_L_law 35 = .ok (.iaload, 1) := by decide +kernel
theorem d_L_law_36 : decode b_L_law 36 = .ok (.bipush 31, 2) := by decide +kernel
theorem d_L_law_38 : decode b_L_law 38 = .ok (.iand, 1) := by decide +kernel
theorem d_L_law_39 : decode b_L_law 39 = .ok (.tableswitch 769 0 18 #[89, 117, 181, 221, 237, 277, 317, 357, 397, 437, 489, 542, 567, 578, 591, 619, 644, 704, 744], 89) := by decide +kernel
theorem d_L_law_128 : decode b_L_law 128 = .ok (.aload_n 1, 1) := by decide +kernel
theorem d_L_law_129 : decode b_L_law 129 = .ok (.aload_n 0, 1) := by decide +kernel
theorem d_L_law_130 : decode b_L_law 130 = .ok (.iload 4, 2) := by decide +kernel
theorem d_L_law_132 : decode b_L_law 132 = .ok (.iconst 1, 1) := by decide +kernel
theorem d_L_law_133 : decode b_L_law 133 = .ok (.iadd, 1) := by decide +kernel
theorem d_L_law_134 : decode b_L_law 134 = .ok (.iaload, 1) := by decide +kernel
theorem d_L_law_135 : decode b_L_law 135 = .ok (.aload_n 3, 1) := by decide +kernel
theorem d_L_law_136 : decode b_L_law 136 = .ok (.invokestatic 76, 3) := by decide +kernel
theorem d_L_law_139 : decode b_L_law 139 = .ok (.istore 5, 2) := by decide +kernel
theorem d_L_law_141 : decode b_L_law 141 = .ok (.aload_n 2, 1) := by decide +kernel
theorem d_L_law_142 : decode b_L_law 142 = .ok (.aload_n 0, 1) := by decide +kernel
theorem d_L_law_143 : decode b_L_law 143 = .ok (.iload 4, 2) := by decide +kernel
theorem d_L_law_145 : decode b_L_law 145 = .ok (.iconst 1, 1) := by decide +kernel
theorem d_L_law_146 : decode b_L_law 146 = .ok (.iadd, 1) := by decide +kernel
theorem d_L_law_147 : decode b_L_law 147 = .ok (.iaload, 1) := by decide +kernel
theorem d_L_law_148 : decode b_L_law 148 = .ok (.invokevirtual 81, 3) := by decide +kernel
theorem d_L_law_151 : decode b_L_law 151 = .ok (.istore 6, 2) := by decide +kernel
theorem d_L_law_153 : decode b_L_law 153 = .ok (.goto (655), 3) := by decide +kernel
theorem d_L_law_156 : decode b_L_law 156 = .ok (.aload_n 1, 1) := by decide +kernel
theorem d_L_law_157 : decode b_L_law 157 = .ok (.aload_n 0, 1) := by decide +kernel
theorem d_L_law_158 : decode b_L_law 158 = .ok (.iload 4, 2) := by decide +kernel
theorem d_L_law_160 : decode b_L_law 160 = .ok (.iconst 1, 1) := by decide +kernel
theorem d_L_law_161 : decode b_L_law 161 = .ok (.iadd, 1) := by decide +kernel
theorem d_L_law_162 : decode b_L_law 162 = .ok (.iaload, 1) := by decide +kernel
theorem d_L_law_163 : decode b_L_law 163 = .ok (.aload_n 0, 1) := by decide +kernel
theorem d_L_law_164 : decode b_L_law 164 = .ok (.iload 4, 2) := by decide +kernel
theorem d_L_law_166 : decode b_L_law 166 = .ok (.iconst 2, 1) := by decide +kernel
theorem d_L_law_167 : decode b_L_law 167 = .ok (.iadd, 1) := by decide +kernel
theorem d_L_law_168 : decode b_L_law 168 = .ok (.iaload, 1) := by decide +kernel
theorem d_L_law_169 : decode b_L_law 169 = .ok (.aload_n 0, 1) := by decide +kernel
theorem d_L_law_170 : decode b_L_law 170 = .ok (.iload 4, 2) := by decide +kernel
theorem d_L_law_172 : decode b_L_law 172 = .ok (.iconst 3, 1) := by decide +kernel
theorem d_L_law_173 : decode b_L_law 173 = .ok (.iadd, 1) := by decide +kernel
theorem d_L_law_174 : decode b_L_law 174 = .ok (.iaload, 1) := by decide +kernel
theorem d_L_law_175 : decode b_L_law 175 = .ok (.aload_n 0, 1) := by decide +kernel
theorem d_L_law_176 : decode b_L_law 176 = .ok (.iload 4, 2) := by decide +kernel
theorem d_L_law_178 : decode b_L_law 178 = .ok (.iconst 4, 1) := by decide +kernel
theorem d_L_law_179 : decode b_L_law 179 = .ok (.iadd, 1) := by decide +kernel
theorem d_L_law_180 : decode b_L_law 180 = .ok (.iaload, 1) := by decide +kernel
theorem d_L_law_181 : decode b_L_law 181 = .ok (.aload_n 3, 1) := by decide +kernel
theorem d_L_law_182 : decode b_L_law 182 = .ok (.invokestatic 82, 3) := by decide +kernel
theorem d_L_law_185 : decode b_L_law 185 = .ok (.istore 5, 2) := by decide +kernel
theorem d_L_law_187 : decode b_L_law 187 = .ok (.aload_n 2, 1) := by decide +kernel
theorem d_L_law_188 : decode b_L_law 188 = .ok (.aload_n 0, 1) := by decide +kernel
theorem d_L_law_189 : decode b_L_law 189 = .ok (.iload 4, 2) := by decide +kernel
theorem d_L_law_191 : decode b_L_law 191 = .ok (.iconst 1, 1) := by decide +kernel
theorem d_L_law_192 : decode b_L_law 192 = .ok (.iadd, 1) := by decide +kernel
theorem d_L_law_193 : decode b_L_law 193 = .ok (.iaload, 1) := by decide +kernel
theorem d_L_law_194 : decode b_L_law 194 = .ok (.aload_n 0, 1) := by decide +kernel
theorem d_L_law_195 : decode b_L_law 195 = .ok (.iload 4, 2) := by decide +kernel
theorem d_L_law_197 : decode b_L_law 197 = .ok (.iconst 2, 1) := by decide +kernel
theorem d_L_law_198 : decode b_L_law 198 = .ok (.iadd, 1) := by decide +kernel
theorem d_L_law_199 : decode b_L_law 199 = .ok (.iaload, 1) := by decide +kernel
theorem d_L_law_200 : decode b_L_law 200 = .ok (.aload_n 0, 1) := by decide +kernel
theorem d_L_law_201 : decode b_L_law 201 = .ok (.iload 4, 2) := by decide +kernel
theorem d_L_law_203 : decode b_L_law 203 = .ok (.iconst 3, 1) := by decide +kernel
theorem d_L_law_204 : decode b_L_law 204 = .ok (.iadd, 1) := by decide +kernel
theorem d_L_law_205 : decode b_L_law 205 = .ok (.iaload, 1) := by decide +kernel
theorem d_L_law_206 : decode b_L_law 206 = .ok (.aload_n 0, 1) := by decide +kernel
theorem d_L_law_207 : decode b_L_law 207 = .ok (.iload 4, 2) := by decide +kernel
theorem d_L_law_209 : decode b_L_law 209 = .ok (.iconst 4, 1) := by decide +kernel
theorem d_L_law_210 : decode b_L_law 210 = .ok (.iadd, 1) := by decide +kernel
theorem d_L_law_211 : decode b_L_law 211 = .ok (.iaload, 1) := by decide +kernel
theorem d_L_law_212 : decode b_L_law 212 = .ok (.invokevirtual 85, 3) := by decide +kernel
theorem d_L_law_215 : decode b_L_law 215 = .ok (.istore 6, 2) := by decide +kernel
theorem d_L_law_217 : decode b_L_law 217 = .ok (.goto (591), 3) := by decide +kernel
theorem d_L_law_220 : decode b_L_law 220 = .ok (.aload_n 1, 1) := by decide +kernel
theorem d_L_law_221 : decode b_L_law 221 = .ok (.aload_n 0, 1) := by decide +kernel
theorem d_L_law_222 : decode b_L_law 222 = .ok (.iload 4, 2) := by decide +kernel
theorem d_L_law_224 : decode b_L_law 224 = .ok (.iconst 1, 1) := by decide +kernel
theorem d_L_law_225 : decode b_L_law 225 = .ok (.iadd, 1) := by decide +kernel
theorem d_L_law_226 : decode b_L_law 226 = .ok (.iaload, 1) := by decide +kernel
theorem d_L_law_227 : decode b_L_law 227 = .ok (.aload_n 0, 1) := by decide +kernel
theorem d_L_law_228 : decode b_L_law 228 = .ok (.iload 4, 2) := by decide +kernel
theorem d_L_law_230 : decode b_L_law 230 = .ok (.iconst 2, 1) := by decide +kernel
theorem d_L_law_231 : decode b_L_law 231 = .ok (.iadd, 1) := by decide +kernel
theorem d_L_law_232 : decode b_L_law 232 = .ok (.iaload, 1) := by decide +kernel
theorem d_L_law_233 : decode b_L_law 233 = .ok (.aload_n 3, 1) := by decide +kernel
theorem d_L_law_234 : decode b_L_law 234 = .ok (.invokestatic 86, 3) := by decide +kernel
theorem d_L_law_237 : decode b_L_law 237 = .ok (.istore 5, 2) := by decide +kernel
theorem d_L_law_239 : decode b_L_law 239 = .ok (.aload_n 2, 1) := by decide +kernel
theorem d_L_law_240 : decode b_L_law 240 = .ok (.aload_n 0, 1) := by decide +kernel
theorem d_L_law_241 : decode b_L_law 241 = .ok (.iload 4, 2) := by decide +kernel
theorem d_L_law_243 : decode b_L_law 243 = .ok (.iconst 1, 1) := by decide +kernel
theorem d_L_law_244 : decode b_L_law 244 = .ok (.iadd, 1) := by decide +kernel
theorem d_L_law_245 : decode b_L_law 245 = .ok (.iaload, 1) := by decide +kernel
theorem d_L_law_246 : decode b_L_law 246 = .ok (.aload_n 0, 1) := by decide +kernel
theorem d_L_law_247 : decode b_L_law 247 = .ok (.iload 4, 2) := by decide +kernel
theorem d_L_law_249 : decode b_L_law 249 = .ok (.iconst 2, 1) := by decide +kernel
theorem d_L_law_250 : decode b_L_law 250 = .ok (.iadd, 1) := by decide +kernel
theorem d_L_law_251 : decode b_L_law 251 = .ok (.iaload, 1) := by decide +kernel
theorem d_L_law_252 : decode b_L_law 252 = .ok (.invokevirtual 89, 3) := by decide +kernel
theorem d_L_law_255 : decode b_L_law 255 = .ok (.istore 6, 2) := by decide +kernel
theorem d_L_law_257 : decode b_L_law 257 = .ok (.goto (551), 3) := by decide +kernel
theorem d_L_law_260 : decode b_L_law 260 = .ok (.aload_n 1, 1) := by decide +kernel
