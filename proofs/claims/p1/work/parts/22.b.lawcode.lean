theorem d_L_law_184 : decode b_L_law 184 = .ok (.aload_n 1, 1) := by decide +kernel
theorem d_L_law_185 : decode b_L_law 185 = .ok (.aload_n 0, 1) := by decide +kernel
theorem d_L_law_186 : decode b_L_law 186 = .ok (.iload 4, 2) := by decide +kernel
theorem d_L_law_188 : decode b_L_law 188 = .ok (.iconst 1, 1) := by decide +kernel
theorem d_L_law_189 : decode b_L_law 189 = .ok (.iadd, 1) := by decide +kernel
theorem d_L_law_190 : decode b_L_law 190 = .ok (.iaload, 1) := by decide +kernel
theorem d_L_law_191 : decode b_L_law 191 = .ok (.aload_n 0, 1) := by decide +kernel
theorem d_L_law_192 : decode b_L_law 192 = .ok (.iload 4, 2) := by decide +kernel
theorem d_L_law_194 : decode b_L_law 194 = .ok (.iconst 2, 1) := by decide +kernel
theorem d_L_law_195 : decode b_L_law 195 = .ok (.iadd, 1) := by decide +kernel
theorem d_L_law_196 : decode b_L_law 196 = .ok (.iaload, 1) := by decide +kernel
theorem d_L_law_197 : decode b_L_law 197 = .ok (.aload_n 0, 1) := by decide +kernel
theorem d_L_law_198 : decode b_L_law 198 = .ok (.iload 4, 2) := by decide +kernel
theorem d_L_law_200 : decode b_L_law 200 = .ok (.iconst 3, 1) := by decide +kernel
theorem d_L_law_201 : decode b_L_law 201 = .ok (.iadd, 1) := by decide +kernel
theorem d_L_law_202 : decode b_L_law 202 = .ok (.iaload, 1) := by decide +kernel
theorem d_L_law_203 : decode b_L_law 203 = .ok (.aload_n 0, 1) := by decide +kernel
theorem d_L_law_204 : decode b_L_law 204 = .ok (.iload 4, 2) := by decide +kernel
theorem d_L_law_206 : decode b_L_law 206 = .ok (.iconst 4, 1) := by decide +kernel
theorem d_L_law_207 : decode b_L_law 207 = .ok (.iadd, 1) := by decide +kernel
theorem d_L_law_208 : decode b_L_law 208 = .ok (.iaload, 1) := by decide +kernel
theorem d_L_law_209 : decode b_L_law 209 = .ok (.aload_n 3, 1) := by decide +kernel
theorem d_L_law_210 : decode b_L_law 210 = .ok (.invokestatic 85, 3) := by decide +kernel
theorem d_L_law_213 : decode b_L_law 213 = .ok (.istore 5, 2) := by decide +kernel
theorem d_L_law_215 : decode b_L_law 215 = .ok (.aload_n 2, 1) := by decide +kernel
theorem d_L_law_216 : decode b_L_law 216 = .ok (.aload_n 0, 1) := by decide +kernel
theorem d_L_law_217 : decode b_L_law 217 = .ok (.iload 4, 2) := by decide +kernel
theorem d_L_law_219 : decode b_L_law 219 = .ok (.iconst 1, 1) := by decide +kernel
theorem d_L_law_220 : decode b_L_law 220 = .ok (.iadd, 1) := by decide +kernel
theorem d_L_law_221 : decode b_L_law 221 = .ok (.iaload, 1) := by decide +kernel
theorem d_L_law_222 : decode b_L_law 222 = .ok (.aload_n 0, 1) := by decide +kernel
theorem d_L_law_223 : decode b_L_law 223 = .ok (.iload 4, 2) := by decide +kernel
theorem d_L_law_225 : decode b_L_law 225 = .ok (.iconst 2, 1) := by decide +kernel
theorem d_L_law_226 : decode b_L_law 226 = .ok (.iadd, 1) := by decide +kernel
theorem d_L_law_227 : decode b_L_law 227 = .ok (.iaload, 1) := by decide +kernel
theorem d_L_law_228 : decode b_L_law 228 = .ok (.aload_n 0, 1) := by decide +kernel
theorem d_L_law_229 : decode b_L_law 229 = .ok (.iload 4, 2) := by decide +kernel
theorem d_L_law_231 : decode b_L_law 231 = .ok (.iconst 3, 1) := by decide +kernel
theorem d_L_law_232 : decode b_L_law 232 = .ok (.iadd, 1) := by decide +kernel
theorem d_L_law_233 : decode b_L_law 233 = .ok (.iaload, 1) := by decide +kernel
theorem d_L_law_234 : decode b_L_law 234 = .ok (.aload_n 0, 1) := by decide +kernel
theorem d_L_law_235 : decode b_L_law 235 = .ok (.iload 4, 2) := by decide +kernel
theorem d_L_law_237 : decode b_L_law 237 = .ok (.iconst 4, 1) := by decide +kernel
theorem d_L_law_238 : decode b_L_law 238 = .ok (.iadd, 1) := by decide +kernel
theorem d_L_law_239 : decode b_L_law 239 = .ok (.iaload, 1) := by decide +kernel
theorem d_L_law_240 : decode b_L_law 240 = .ok (.invokevirtual 88, 3) := by decide +kernel
theorem d_L_law_243 : decode b_L_law 243 = .ok (.istore 6, 2) := by decide +kernel
theorem d_L_law_245 : decode b_L_law 245 = .ok (.aload_n 2, 1) := by decide +kernel
theorem d_L_law_246 : decode b_L_law 246 = .ok (.invokevirtual 82, 3) := by decide +kernel
theorem d_L_law_249 : decode b_L_law 249 = .ok (.iload 5, 2) := by decide +kernel
theorem d_L_law_251 : decode b_L_law 251 = .ok (.if_icmp .eq (5), 3) := by decide +kernel
theorem d_L_law_254 : decode b_L_law 254 = .ok (.iconst 0, 1) := by decide +kernel
theorem d_L_law_255 : decode b_L_law 255 = .ok (.ireturn, 1) := by decide +kernel
theorem d_L_law_256 : decode b_L_law 256 = .ok (.iload 5, 2) := by decide +kernel
theorem d_L_law_258 : decode b_L_law 258 = .ok (.ifCond .ne (15), 3) := by decide +kernel
theorem d_L_law_261 : decode b_L_law 261 = .ok (.aload_n 3, 1) := by decide +kernel
theorem d_L_law_262 : decode b_L_law 262 = .ok (.iconst 0, 1) := by decide +kernel
theorem d_L_law_263 : decode b_L_law 263 = .ok (.laload, 1) := by decide +kernel
theorem d_L_law_264 : decode b_L_law 264 = .ok (.iload 6, 2) := by decide +kernel
theorem d_L_law_266 : decode b_L_law 266 = .ok (.i2l, 1) := by decide +kernel
