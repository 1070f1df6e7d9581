theorem d_Law_law_174 : decode b_Law_law 174 = .ok (.aload_n 0, 1) := by decide +kernel
theorem d_Law_law_175 : decode b_Law_law 175 = .ok (.iload 4, 2) := by decide +kernel
theorem d_Law_law_177 : decode b_Law_law 177 = .ok (.iconst 3, 1) := by decide +kernel
theorem d_Law_law_178 : decode b_Law_law 178 = .ok (.iadd, 1) := by decide +kernel
theorem d_Law_law_179 : decode b_Law_law 179 = .ok (.iaload, 1) := by decide +kernel
theorem d_Law_law_180 : decode b_Law_law 180 = .ok (.i2l, 1) := by decide +kernel
theorem d_Law_law_181 : decode b_Law_law 181 = .ok (.ldc2_w 32, 3) := by decide +kernel
theorem d_Law_law_184 : decode b_Law_law 184 = .ok (.land, 1) := by decide +kernel
theorem d_Law_law_185 : decode b_Law_law 185 = .ok (.lor, 1) := by decide +kernel
theorem d_Law_law_186 : decode b_Law_law 186 = .ok (.invokevirtual 34, 3) := by decide +kernel
theorem d_Law_law_189 : decode b_Law_law 189 = .ok (.aload_n 2, 1) := by decide +kernel
theorem d_Law_law_190 : decode b_Law_law 190 = .ok (.aload_n 0, 1) := by decide +kernel
theorem d_Law_law_191 : decode b_Law_law 191 = .ok (.iload 4, 2) := by decide +kernel
theorem d_Law_law_193 : decode b_Law_law 193 = .ok (.iconst 1, 1) := by decide +kernel
theorem d_Law_law_194 : decode b_Law_law 194 = .ok (.iadd, 1) := by decide +kernel
theorem d_Law_law_195 : decode b_Law_law 195 = .ok (.iaload, 1) := by decide +kernel
theorem d_Law_law_196 : decode b_Law_law 196 = .ok (.aload_n 0, 1) := by decide +kernel
theorem d_Law_law_197 : decode b_Law_law 197 = .ok (.iload 4, 2) := by decide +kernel
theorem d_Law_law_199 : decode b_Law_law 199 = .ok (.iconst 2, 1) := by decide +kernel
theorem d_Law_law_200 : decode b_Law_law 200 = .ok (.iadd, 1) := by decide +kernel
theorem d_Law_law_201 : decode b_Law_law 201 = .ok (.iaload, 1) := by decide +kernel
theorem d_Law_law_202 : decode b_Law_law 202 = .ok (.i2l, 1) := by decide +kernel
theorem d_Law_law_203 : decode b_Law_law 203 = .ok (.bipush 32, 2) := by decide +kernel
theorem d_Law_law_205 : decode b_Law_law 205 = .ok (.lshl, 1) := by decide +kernel
theorem d_Law_law_206 : decode b_Law_law 206 = .ok (.aload_n 0, 1) := by decide +kernel
theorem d_Law_law_207 : decode b_Law_law 207 = .ok (.iload 4, 2) := by decide +kernel
theorem d_Law_law_209 : decode b_Law_law 209 = .ok (.iconst 3, 1) := by decide +kernel
theorem d_Law_law_210 : decode b_Law_law 210 = .ok (.iadd, 1) := by decide +kernel
theorem d_Law_law_211 : decode b_Law_law 211 = .ok (.iaload, 1) := by decide +kernel
theorem d_Law_law_212 : decode b_Law_law 212 = .ok (.i2l, 1) := by decide +kernel
theorem d_Law_law_213 : decode b_Law_law 213 = .ok (.ldc2_w 32, 3) := by decide +kernel
theorem d_Law_law_216 : decode b_Law_law 216 = .ok (.land, 1) := by decide +kernel
theorem d_Law_law_217 : decode b_Law_law 217 = .ok (.lor, 1) := by decide +kernel
theorem d_Law_law_218 : decode b_Law_law 218 = .ok (.invokevirtual 38, 3) := by decide +kernel
theorem d_Law_law_221 : decode b_Law_law 221 = .ok (.if_icmp .eq 575, 3) := by decide +kernel
theorem d_Law_law_226 : decode b_Law_law 226 = .ok (.aload_n 1, 1) := by decide +kernel
theorem d_Law_law_227 : decode b_Law_law 227 = .ok (.aload_n 0, 1) := by decide +kernel
theorem d_Law_law_228 : decode b_Law_law 228 = .ok (.iload 4, 2) := by decide +kernel
theorem d_Law_law_230 : decode b_Law_law 230 = .ok (.iconst 1, 1) := by decide +kernel
theorem d_Law_law_231 : decode b_Law_law 231 = .ok (.iadd, 1) := by decide +kernel
theorem d_Law_law_232 : decode b_Law_law 232 = .ok (.iaload, 1) := by decide +kernel
theorem d_Law_law_233 : decode b_Law_law 233 = .ok (.aload_n 0, 1) := by decide +kernel
theorem d_Law_law_234 : decode b_Law_law 234 = .ok (.iload 4, 2) := by decide +kernel
theorem d_Law_law_236 : decode b_Law_law 236 = .ok (.iconst 2, 1) := by decide +kernel
theorem d_Law_law_237 : decode b_Law_law 237 = .ok (.iadd, 1) := by decide +kernel
theorem d_Law_law_238 : decode b_Law_law 238 = .ok (.iaload, 1) := by decide +kernel
theorem d_Law_law_239 : decode b_Law_law 239 = .ok (.aload_n 0, 1) := by decide +kernel
theorem d_Law_law_240 : decode b_Law_law 240 = .ok (.iload 4, 2) := by decide +kernel
theorem d_Law_law_242 : decode b_Law_law 242 = .ok (.iconst 3, 1) := by decide +kernel
theorem d_Law_law_243 : decode b_Law_law 243 = .ok (.iadd, 1) := by decide +kernel
theorem d_Law_law_244 : decode b_Law_law 244 = .ok (.iaload, 1) := by decide +kernel
theorem d_Law_law_245 : decode b_Law_law 245 = .ok (.ifCond .eq 7, 3) := by decide +kernel
theorem d_Law_law_248 : decode b_Law_law 248 = .ok (.iconst 1, 1) := by decide +kernel
theorem d_Law_law_249 : decode b_Law_law 249 = .ok (.goto 4, 3) := by decide +kernel
theorem d_Law_law_252 : decode b_Law_law 252 = .ok (.iconst 0, 1) := by decide +kernel
theorem d_Law_law_253 : decode b_Law_law 253 = .ok (.invokevirtual 39, 3) := by decide +kernel
theorem d_Law_law_256 : decode b_Law_law 256 = .ok (.aload_n 2, 1) := by decide +kernel
theorem d_Law_law_257 : decode b_Law_law 257 = .ok (.aload_n 0, 1) := by decide +kernel
theorem d_Law_law_258 : decode b_Law_law 258 = .ok (.iload 4, 2) := by decide +kernel
theorem d_Law_law_260 : decode b_Law_law 260 = .ok (.iconst 1, 1) := by decide +kernel
