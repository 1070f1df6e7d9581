theorem d_Mo_invoice_0 : decode b_Mo_invoice 0 = .ok (.aload_n 0, 1) := by decide +kernel
theorem d_Mo_invoice_1 : decode b_Mo_invoice 1 = .ok (.iconst 0, 1) := by decide +kernel
theorem d_Mo_invoice_2 : decode b_Mo_invoice 2 = .ok (.putfield 91, 3) := by decide +kernel
theorem d_Mo_invoice_5 : decode b_Mo_invoice 5 = .ok (.iload_n 1, 1) := by decide +kernel
theorem d_Mo_invoice_6 : decode b_Mo_invoice 6 = .ok (.i2l, 1) := by decide +kernel
theorem d_Mo_invoice_7 : decode b_Mo_invoice 7 = .ok (.lconst 0, 1) := by decide +kernel
theorem d_Mo_invoice_8 : decode b_Mo_invoice 8 = .ok (.aload_n 0, 1) := by decide +kernel
theorem d_Mo_invoice_9 : decode b_Mo_invoice 9 = .ok (.getfield 101, 3) := by decide +kernel
theorem d_Mo_invoice_12 : decode b_Mo_invoice 12 = .ok (.iconst 1, 1) := by decide +kernel
theorem d_Mo_invoice_13 : decode b_Mo_invoice 13 = .ok (.isub, 1) := by decide +kernel
theorem d_Mo_invoice_14 : decode b_Mo_invoice 14 = .ok (.i2l, 1) := by decide +kernel
theorem d_Mo_invoice_15 : decode b_Mo_invoice 15 = .ok (.invokestatic 97, 3) := by decide +kernel
theorem d_Mo_invoice_18 : decode b_Mo_invoice 18 = .ok (.ifCond .ne 7, 3) := by decide +kernel
theorem d_Mo_invoice_21 : decode b_Mo_invoice 21 = .ok (.ldc2_w 135, 3) := by decide +kernel
theorem d_Mo_invoice_24 : decode b_Mo_invoice 24 = .ok (.lreturn, 1) := by decide +kernel
theorem d_Mo_invoice_25 : decode b_Mo_invoice 25 = .ok (.iload_n 2, 1) := by decide +kernel
theorem d_Mo_invoice_26 : decode b_Mo_invoice 26 = .ok (.i2l, 1) := by decide +kernel
theorem d_Mo_invoice_27 : decode b_Mo_invoice 27 = .ok (.lconst 1, 1) := by decide +kernel
theorem d_Mo_invoice_28 : decode b_Mo_invoice 28 = .ok (.ldc2_w 128, 3) := by decide +kernel
theorem d_Mo_invoice_31 : decode b_Mo_invoice 31 = .ok (.invokestatic 97, 3) := by decide +kernel
theorem d_Mo_invoice_34 : decode b_Mo_invoice 34 = .ok (.ifCond .eq 28, 3) := by decide +kernel
theorem d_Mo_invoice_37 : decode b_Mo_invoice 37 = .ok (.iload_n 3, 1) := by decide +kernel
theorem d_Mo_invoice_38 : decode b_Mo_invoice 38 = .ok (.i2l, 1) := by decide +kernel
theorem d_Mo_invoice_39 : decode b_Mo_invoice 39 = .ok (.lconst 0, 1) := by decide +kernel
theorem d_Mo_invoice_40 : decode b_Mo_invoice 40 = .ok (.ldc2_w 137, 3) := by decide +kernel
theorem d_Mo_invoice_43 : decode b_Mo_invoice 43 = .ok (.invokestatic 97, 3) := by decide +kernel
theorem d_Mo_invoice_46 : decode b_Mo_invoice 46 = .ok (.ifCond .eq 16, 3) := by decide +kernel
theorem d_Mo_invoice_49 : decode b_Mo_invoice 49 = .ok (.iload 4, 2) := by decide +kernel
theorem d_Mo_invoice_51 : decode b_Mo_invoice 51 = .ok (.i2l, 1) := by decide +kernel
theorem d_Mo_invoice_52 : decode b_Mo_invoice 52 = .ok (.lconst 0, 1) := by decide +kernel
theorem d_Mo_invoice_53 : decode b_Mo_invoice 53 = .ok (.ldc2_w 139, 3) := by decide +kernel
theorem d_Mo_invoice_56 : decode b_Mo_invoice 56 = .ok (.invokestatic 97, 3) := by decide +kernel
theorem d_Mo_invoice_59 : decode b_Mo_invoice 59 = .ok (.ifCond .ne 7, 3) := by decide +kernel
theorem d_Mo_invoice_62 : decode b_Mo_invoice 62 = .ok (.ldc2_w 141, 3) := by decide +kernel
theorem d_Mo_invoice_65 : decode b_Mo_invoice 65 = .ok (.lreturn, 1) := by decide +kernel
theorem d_Mo_invoice_66 : decode b_Mo_invoice 66 = .ok (.aload_n 0, 1) := by decide +kernel
theorem d_Mo_invoice_67 : decode b_Mo_invoice 67 = .ok (.getfield 30, 3) := by decide +kernel
theorem d_Mo_invoice_70 : decode b_Mo_invoice 70 = .ok (.iload_n 1, 1) := by decide +kernel
theorem d_Mo_invoice_71 : decode b_Mo_invoice 71 = .ok (.iaload, 1) := by decide +kernel
theorem d_Mo_invoice_72 : decode b_Mo_invoice 72 = .ok (.iconst 1, 1) := by decide +kernel
theorem d_Mo_invoice_73 : decode b_Mo_invoice 73 = .ok (.if_icmp .ne 26, 3) := by decide +kernel
theorem d_Mo_invoice_76 : decode b_Mo_invoice 76 = .ok (.aload_n 0, 1) := by decide +kernel
theorem d_Mo_invoice_77 : decode b_Mo_invoice 77 = .ok (.getfield 26, 3) := by decide +kernel
theorem d_Mo_invoice_80 : decode b_Mo_invoice 80 = .ok (.iload_n 1, 1) := by decide +kernel
theorem d_Mo_invoice_81 : decode b_Mo_invoice 81 = .ok (.baload, 1) := by decide +kernel
theorem d_Mo_invoice_82 : decode b_Mo_invoice 82 = .ok (.ifCond .eq 21, 3) := by decide +kernel
theorem d_Mo_invoice_85 : decode b_Mo_invoice 85 = .ok (.aload_n 0, 1) := by decide +kernel
theorem d_Mo_invoice_86 : decode b_Mo_invoice 86 = .ok (.getfield 45, 3) := by decide +kernel
theorem d_Mo_invoice_89 : decode b_Mo_invoice 89 = .ok (.iload_n 1, 1) := by decide +kernel
theorem d_Mo_invoice_90 : decode b_Mo_invoice 90 = .ok (.iaload, 1) := by decide +kernel
theorem d_Mo_invoice_91 : decode b_Mo_invoice 91 = .ok (.iload 4, 2) := by decide +kernel
theorem d_Mo_invoice_93 : decode b_Mo_invoice 93 = .ok (.bipush 30, 2) := by decide +kernel
theorem d_Mo_invoice_95 : decode b_Mo_invoice 95 = .ok (.idiv, 1) := by decide +kernel
theorem d_Mo_invoice_96 : decode b_Mo_invoice 96 = .ok (.if_icmp .lt 7, 3) := by decide +kernel
theorem d_Mo_invoice_99 : decode b_Mo_invoice 99 = .ok (.ldc2_w 143, 3) := by decide +kernel
theorem d_Mo_invoice_102 : decode b_Mo_invoice 102 = .ok (.lreturn, 1) := by decide +kernel
theorem d_Mo_invoice_103 : decode b_Mo_invoice 103 = .ok (.aload_n 0, 1) := by decide +kernel
theorem d_Mo_invoice_104 : decode b_Mo_invoice 104 = .ok (.iload_n 3, 1) := by decide +kernel
theorem d_Mo_invoice_105 : decode b_Mo_invoice 105 = .ok (.iload 4, 2) := by decide +kernel
theorem d_Mo_invoice_107 : decode b_Mo_invoice 107 = .ok (.invokevirtual 145, 3) := by decide +kernel
theorem d_Mo_invoice_110 : decode b_Mo_invoice 110 = .ok (.istore 5, 2) := by decide +kernel
theorem d_Mo_invoice_112 : decode b_Mo_invoice 112 = .ok (.iload 5, 2) := by decide +kernel
theorem d_Mo_invoice_114 : decode b_Mo_invoice 114 = .ok (.ifCond .ge 11, 3) := by decide +kernel
theorem d_Mo_invoice_117 : decode b_Mo_invoice 117 = .ok (.iload_n 3, 1) := by decide +kernel
theorem d_Mo_invoice_118 : decode b_Mo_invoice 118 = .ok (.ifCond .le 7, 3) := by decide +kernel
theorem d_Mo_invoice_121 : decode b_Mo_invoice 121 = .ok (.ldc2_w 149, 3) := by decide +kernel
theorem d_Mo_invoice_124 : decode b_Mo_invoice 124 = .ok (.lreturn, 1) := by decide +kernel
theorem d_Mo_invoice_125 : decode b_Mo_invoice 125 = .ok (.iload 5, 2) := by decide +kernel
theorem d_Mo_invoice_127 : decode b_Mo_invoice 127 = .ok (.ifCond .ge 8, 3) := by decide +kernel
theorem d_Mo_invoice_130 : decode b_Mo_invoice 130 = .ok (.iload_n 2, 1) := by decide +kernel
theorem d_Mo_invoice_131 : decode b_Mo_invoice 131 = .ok (.i2l, 1) := by decide +kernel
theorem d_Mo_invoice_132 : decode b_Mo_invoice 132 = .ok (.goto 23, 3) := by decide +kernel
theorem d_Mo_invoice_135 : decode b_Mo_invoice 135 = .ok (.iload_n 2, 1) := by decide +kernel
theorem d_Mo_invoice_136 : decode b_Mo_invoice 136 = .ok (.i2l, 1) := by decide +kernel
theorem d_Mo_invoice_137 : decode b_Mo_invoice 137 = .ok (.aload_n 0, 1) := by decide +kernel
theorem d_Mo_invoice_138 : decode b_Mo_invoice 138 = .ok (.getfield 73, 3) := by decide +kernel
theorem d_Mo_invoice_141 : decode b_Mo_invoice 141 = .ok (.iload 5, 2) := by decide +kernel
theorem d_Mo_invoice_143 : decode b_Mo_invoice 143 = .ok (.iaload, 1) := by decide +kernel
theorem d_Mo_invoice_144 : decode b_Mo_invoice 144 = .ok (.i2l, 1) := by decide +kernel
theorem d_Mo_invoice_145 : decode b_Mo_invoice 145 = .ok (.lmul, 1) := by decide +kernel
theorem d_Mo_invoice_146 : decode b_Mo_invoice 146 = .ok (.aload_n 0, 1) := by decide +kernel
theorem d_Mo_invoice_147 : decode b_Mo_invoice 147 = .ok (.getfield 76, 3) := by decide +kernel
theorem d_Mo_invoice_150 : decode b_Mo_invoice 150 = .ok (.iload 5, 2) := by decide +kernel
theorem d_Mo_invoice_152 : decode b_Mo_invoice 152 = .ok (.iaload, 1) := by decide +kernel
theorem d_Mo_invoice_153 : decode b_Mo_invoice 153 = .ok (.i2l, 1) := by decide +kernel
theorem d_Mo_invoice_154 : decode b_Mo_invoice 154 = .ok (.ldiv, 1) := by decide +kernel
theorem d_Mo_invoice_155 : decode b_Mo_invoice 155 = .ok (.lstore 6, 2) := by decide +kernel
theorem d_Mo_invoice_157 : decode b_Mo_invoice 157 = .ok (.aload_n 0, 1) := by decide +kernel
theorem d_Mo_invoice_158 : decode b_Mo_invoice 158 = .ok (.getfield 23, 3) := by decide +kernel
theorem d_Mo_invoice_161 : decode b_Mo_invoice 161 = .ok (.iload_n 1, 1) := by decide +kernel
theorem d_Mo_invoice_162 : decode b_Mo_invoice 162 = .ok (.iaload, 1) := by decide +kernel
theorem d_Mo_invoice_163 : decode b_Mo_invoice 163 = .ok (.i2l, 1) := by decide +kernel
theorem d_Mo_invoice_164 : decode b_Mo_invoice 164 = .ok (.aload_n 0, 1) := by decide +kernel
theorem d_Mo_invoice_165 : decode b_Mo_invoice 165 = .ok (.getfield 63, 3) := by decide +kernel
theorem d_Mo_invoice_168 : decode b_Mo_invoice 168 = .ok (.i2l, 1) := by decide +kernel
theorem d_Mo_invoice_169 : decode b_Mo_invoice 169 = .ok (.lmul, 1) := by decide +kernel
theorem d_Mo_invoice_170 : decode b_Mo_invoice 170 = .ok (.ldc2_w 151, 3) := by decide +kernel
theorem d_Mo_invoice_173 : decode b_Mo_invoice 173 = .ok (.ldiv, 1) := by decide +kernel
theorem d_Mo_invoice_174 : decode b_Mo_invoice 174 = .ok (.lstore 8, 2) := by decide +kernel
theorem d_Mo_invoice_176 : decode b_Mo_invoice 176 = .ok (.lload 6, 2) := by decide +kernel
theorem d_Mo_invoice_178 : decode b_Mo_invoice 178 = .ok (.aload_n 0, 1) := by decide +kernel
theorem d_Mo_invoice_179 : decode b_Mo_invoice 179 = .ok (.getfield 23, 3) := by decide +kernel
theorem d_Mo_invoice_182 : decode b_Mo_invoice 182 = .ok (.iload_n 1, 1) := by decide +kernel
theorem d_Mo_invoice_183 : decode b_Mo_invoice 183 = .ok (.iaload, 1) := by decide +kernel
theorem d_Mo_invoice_184 : decode b_Mo_invoice 184 = .ok (.i2l, 1) := by decide +kernel
theorem d_Mo_invoice_185 : decode b_Mo_invoice 185 = .ok (.lload 8, 2) := by decide +kernel
theorem d_Mo_invoice_187 : decode b_Mo_invoice 187 = .ok (.lsub, 1) := by decide +kernel
theorem d_Mo_invoice_188 : decode b_Mo_invoice 188 = .ok (.aload_n 0, 1) := by decide +kernel
theorem d_Mo_invoice_189 : decode b_Mo_invoice 189 = .ok (.getfield 23, 3) := by decide +kernel
theorem d_Mo_invoice_192 : decode b_Mo_invoice 192 = .ok (.iload_n 1, 1) := by decide +kernel
theorem d_Mo_invoice_193 : decode b_Mo_invoice 193 = .ok (.iaload, 1) := by decide +kernel
theorem d_Mo_invoice_194 : decode b_Mo_invoice 194 = .ok (.i2l, 1) := by decide +kernel
theorem d_Mo_invoice_195 : decode b_Mo_invoice 195 = .ok (.lload 8, 2) := by decide +kernel
theorem d_Mo_invoice_197 : decode b_Mo_invoice 197 = .ok (.ladd, 1) := by decide +kernel
theorem d_Mo_invoice_198 : decode b_Mo_invoice 198 = .ok (.invokestatic 97, 3) := by decide +kernel
theorem d_Mo_invoice_201 : decode b_Mo_invoice 201 = .ok (.ifCond .ne 7, 3) := by decide +kernel
theorem d_Mo_invoice_204 : decode b_Mo_invoice 204 = .ok (.ldc2_w 153, 3) := by decide +kernel
theorem d_Mo_invoice_207 : decode b_Mo_invoice 207 = .ok (.lreturn, 1) := by decide +kernel
theorem d_Mo_invoice_208 : decode b_Mo_invoice 208 = .ok (.aload_n 0, 1) := by decide +kernel
theorem d_Mo_invoice_209 : decode b_Mo_invoice 209 = .ok (.aload_n 0, 1) := by decide +kernel
theorem d_Mo_invoice_210 : decode b_Mo_invoice 210 = .ok (.getfield 20, 3) := by decide +kernel
theorem d_Mo_invoice_213 : decode b_Mo_invoice 213 = .ok (.iload_n 1, 1) := by decide +kernel
theorem d_Mo_invoice_214 : decode b_Mo_invoice 214 = .ok (.iaload, 1) := by decide +kernel
theorem d_Mo_invoice_215 : decode b_Mo_invoice 215 = .ok (.lconst 0, 1) := by decide +kernel
theorem d_Mo_invoice_216 : decode b_Mo_invoice 216 = .ok (.lload 6, 2) := by decide +kernel
theorem d_Mo_invoice_218 : decode b_Mo_invoice 218 = .ok (.aload_n 0, 1) := by decide +kernel
theorem d_Mo_invoice_219 : decode b_Mo_invoice 219 = .ok (.getfield 26, 3) := by decide +kernel
theorem d_Mo_invoice_222 : decode b_Mo_invoice 222 = .ok (.iload_n 1, 1) := by decide +kernel
theorem d_Mo_invoice_223 : decode b_Mo_invoice 223 = .ok (.baload, 1) := by decide +kernel
theorem d_Mo_invoice_224 : decode b_Mo_invoice 224 = .ok (.ifCond .eq 7, 3) := by decide +kernel
theorem d_Mo_invoice_227 : decode b_Mo_invoice 227 = .ok (.lconst 0, 1) := by decide +kernel
theorem d_Mo_invoice_228 : decode b_Mo_invoice 228 = .ok (.goto 10, 3) := by decide +kernel
theorem d_Mo_invoice_231 : decode b_Mo_invoice 231 = .ok (.aload_n 0, 1) := by decide +kernel
theorem d_Mo_invoice_232 : decode b_Mo_invoice 232 = .ok (.getfield 23, 3) := by decide +kernel
theorem d_Mo_invoice_235 : decode b_Mo_invoice 235 = .ok (.iload_n 1, 1) := by decide +kernel
theorem d_Mo_invoice_236 : decode b_Mo_invoice 236 = .ok (.iaload, 1) := by decide +kernel
theorem d_Mo_invoice_237 : decode b_Mo_invoice 237 = .ok (.i2l, 1) := by decide +kernel
theorem d_Mo_invoice_238 : decode b_Mo_invoice 238 = .ok (.invokevirtual 124, 3) := by decide +kernel
theorem d_Mo_invoice_241 : decode b_Mo_invoice 241 = .ok (.ifCond .ne 7, 3) := by decide +kernel
theorem d_Mo_invoice_244 : decode b_Mo_invoice 244 = .ok (.ldc2_w 155, 3) := by decide +kernel
theorem d_Mo_invoice_247 : decode b_Mo_invoice 247 = .ok (.lreturn, 1) := by decide +kernel
theorem d_Mo_invoice_248 : decode b_Mo_invoice 248 = .ok (.aload_n 0, 1) := by decide +kernel
theorem d_Mo_invoice_249 : decode b_Mo_invoice 249 = .ok (.getfield 17, 3) := by decide +kernel
theorem d_Mo_invoice_252 : decode b_Mo_invoice 252 = .ok (.aload_n 0, 1) := by decide +kernel
theorem d_Mo_invoice_253 : decode b_Mo_invoice 253 = .ok (.getfield 20, 3) := by decide +kernel
theorem d_Mo_invoice_256 : decode b_Mo_invoice 256 = .ok (.iload_n 1, 1) := by decide +kernel
theorem d_Mo_invoice_257 : decode b_Mo_invoice 257 = .ok (.iaload, 1) := by decide +kernel
theorem d_Mo_invoice_258 : decode b_Mo_invoice 258 = .ok (.dup2, 1) := by decide +kernel
theorem d_Mo_invoice_259 : decode b_Mo_invoice 259 = .ok (.laload, 1) := by decide +kernel
theorem d_Mo_invoice_260 : decode b_Mo_invoice 260 = .ok (.lload 6, 2) := by decide +kernel
theorem d_Mo_invoice_262 : decode b_Mo_invoice 262 = .ok (.ladd, 1) := by decide +kernel
theorem d_Mo_invoice_263 : decode b_Mo_invoice 263 = .ok (.lastore, 1) := by decide +kernel
theorem d_Mo_invoice_264 : decode b_Mo_invoice 264 = .ok (.aload_n 0, 1) := by decide +kernel
theorem d_Mo_invoice_265 : decode b_Mo_invoice 265 = .ok (.getfield 39, 3) := by decide +kernel
theorem d_Mo_invoice_268 : decode b_Mo_invoice 268 = .ok (.iload_n 1, 1) := by decide +kernel
theorem d_Mo_invoice_269 : decode b_Mo_invoice 269 = .ok (.lload 6, 2) := by decide +kernel
theorem d_Mo_invoice_271 : decode b_Mo_invoice 271 = .ok (.aload_n 0, 1) := by decide +kernel
theorem d_Mo_invoice_272 : decode b_Mo_invoice 272 = .ok (.getfield 23, 3) := by decide +kernel
theorem d_Mo_invoice_275 : decode b_Mo_invoice 275 = .ok (.iload_n 1, 1) := by decide +kernel
theorem d_Mo_invoice_276 : decode b_Mo_invoice 276 = .ok (.iaload, 1) := by decide +kernel
theorem d_Mo_invoice_277 : decode b_Mo_invoice 277 = .ok (.i2l, 1) := by decide +kernel
theorem d_Mo_invoice_278 : decode b_Mo_invoice 278 = .ok (.lsub, 1) := by decide +kernel
theorem d_Mo_invoice_279 : decode b_Mo_invoice 279 = .ok (.lastore, 1) := by decide +kernel
theorem d_Mo_invoice_280 : decode b_Mo_invoice 280 = .ok (.aload_n 0, 1) := by decide +kernel
theorem d_Mo_invoice_281 : decode b_Mo_invoice 281 = .ok (.getfield 42, 3) := by decide +kernel
theorem d_Mo_invoice_284 : decode b_Mo_invoice 284 = .ok (.iload_n 1, 1) := by decide +kernel
theorem d_Mo_invoice_285 : decode b_Mo_invoice 285 = .ok (.dup2, 1) := by decide +kernel
theorem d_Mo_invoice_286 : decode b_Mo_invoice 286 = .ok (.iaload, 1) := by decide +kernel
theorem d_Mo_invoice_287 : decode b_Mo_invoice 287 = .ok (.iconst 1, 1) := by decide +kernel
theorem d_Mo_invoice_288 : decode b_Mo_invoice 288 = .ok (.iadd, 1) := by decide +kernel
theorem d_Mo_invoice_289 : decode b_Mo_invoice 289 = .ok (.iastore, 1) := by decide +kernel
theorem d_Mo_invoice_290 : decode b_Mo_invoice 290 = .ok (.aload_n 0, 1) := by decide +kernel
theorem d_Mo_invoice_291 : decode b_Mo_invoice 291 = .ok (.getfield 45, 3) := by decide +kernel
theorem d_Mo_invoice_294 : decode b_Mo_invoice 294 = .ok (.iload_n 1, 1) := by decide +kernel
theorem d_Mo_invoice_295 : decode b_Mo_invoice 295 = .ok (.iload 4, 2) := by decide +kernel
theorem d_Mo_invoice_297 : decode b_Mo_invoice 297 = .ok (.bipush 30, 2) := by decide +kernel
theorem d_Mo_invoice_299 : decode b_Mo_invoice 299 = .ok (.idiv, 1) := by decide +kernel
theorem d_Mo_invoice_300 : decode b_Mo_invoice 300 = .ok (.iastore, 1) := by decide +kernel
theorem d_Mo_invoice_301 : decode b_Mo_invoice 301 = .ok (.aload_n 0, 1) := by decide +kernel
theorem d_Mo_invoice_302 : decode b_Mo_invoice 302 = .ok (.getfield 26, 3) := by decide +kernel
theorem d_Mo_invoice_305 : decode b_Mo_invoice 305 = .ok (.iload_n 1, 1) := by decide +kernel
theorem d_Mo_invoice_306 : decode b_Mo_invoice 306 = .ok (.baload, 1) := by decide +kernel
theorem d_Mo_invoice_307 : decode b_Mo_invoice 307 = .ok (.ifCond .ne 10, 3) := by decide +kernel
theorem d_Mo_invoice_310 : decode b_Mo_invoice 310 = .ok (.aload_n 0, 1) := by decide +kernel
theorem d_Mo_invoice_311 : decode b_Mo_invoice 311 = .ok (.getfield 30, 3) := by decide +kernel
theorem d_Mo_invoice_314 : decode b_Mo_invoice 314 = .ok (.iload_n 1, 1) := by decide +kernel
theorem d_Mo_invoice_315 : decode b_Mo_invoice 315 = .ok (.iconst 2, 1) := by decide +kernel
theorem d_Mo_invoice_316 : decode b_Mo_invoice 316 = .ok (.iastore, 1) := by decide +kernel
theorem d_Mo_invoice_317 : decode b_Mo_invoice 317 = .ok (.lload 6, 2) := by decide +kernel
theorem d_Mo_invoice_319 : decode b_Mo_invoice 319 = .ok (.lreturn, 1) := by decide +kernel
set_option maxHeartbeats 4000000 in
set_option maxRecDepth 100000 in
theorem c_Mo_invoice (l : Launch) (dC : Nat → ClassId) (dI : Nat → Nat → Nat) (ad : Nat → Nat) (cA : Nat → ClassId) (th yr : Int32) (nf no nt : Nat) (bd : Int32) (nb : Nat) (fl : Int32) (AI : Nat → Nat → Int32) (AN : Nat → Nat → Nat) (AB : Nat → Nat → Bool) (AL : Nat → Nat → Int64) (sz : Nat) (i0 c0 cu on : Int32) (hI : InvM nf no nt nb AI AN) : Met l y_Mo_invoice w_Mo_invoice { frames := 3, cells := 0, slots := 0, locals := 79 } (mu_P (dC, dI) classes (mtys cA) (mw ad cA th yr nf no nt bd nb fl AI AN AB AL) sz [.ref (ad 0), .int i0, .int c0, .int cu, .int on]) (va_Ql (fun r u => (r, u) = m_invoice (th, yr, nf, no, nt, bd, nb, fl, AI, AN, AB, AL) i0 c0 cu on) (mu_B (dC, dI) classes (mtys cA) (va_A (mw ad cA th yr nf no nt bd nb fl AI AN AB AL) sz) (mwS ad cA)) (va_A (mw ad cA th yr nf no nt bd nb fl AI AN AB AL) sz)) 0 0 (va_A (mw ad cA th yr nf no nt bd nb fl AI AN AB AL) sz) := by
  refine Met.ofW (cc := b_Mo_invoice) (maxL := 10) (ret := (some .long)) (by decide) rfl ?_
  intro p e s m args below meth c s₁ B hml hv
  obtain ⟨rfl, hsz, hP, hK, hD0, hN⟩ := hv
  have hx := B.exec
  have hb := B.bytes
  have hr := B.returns
  have hts := atoms_spec (ws := w_Mo_invoice) B.pre
  have hG := fun (w : Cond) (h : w ∈ wG) => hts w (List.mem_cons_of_mem _ h)
  have hown : s.vm.findClass R_Mo = some m.cls := findClass_of_methodNamed B.named
  have hlocks := B.notSynchronized
  subst hsz
  have hD := hD0.self (sz := s.heap.size)
  generalize hAe : va_A (mw ad cA th yr nf no nt bd nb fl AI AN AB AL) s.heap.size = A at hD ⊢
  have hA : ∀ q : Nat, s.heap.size ≤ q → A q := fun q h => by rw [← hAe]; exact Or.inr h
  have hS : va_S A s.heap s.heap [] := va_S.rf
  have hP : va_P (dC, dI) classes (mw ad cA th yr nf no nt bd nb fl AI AN AB AL) s.heap := hP
  have hl := lv_entry ([.ref (ad 0), .int i0, .int c0, .int cu, .int on]) (n := 10) (Nat.le_of_ble_eq_true rfl)
  rw [lg_entry_eq]
  generalize (lg_sl ([.ref (ad 0), .int i0, .int c0, .int cu, .int on]) ++ List.replicate (10 - (lg_sl ([.ref (ad 0), .int i0, .int c0, .int cu, .int on])).length) Slot.unset).toArray = ls at hl ⊢
  have hl : lv_has ls 10 [(0, .ref (ad 0)), (1, .int i0), (2, .int c0), (3, .int cu), (4, .int on)] := hl
  obtain ⟨hnf, hno, hnt, hnb, hfu, hft, hbf, hrw, hce, hdn⟩ := id hI
  refine lv_aload_n hx hb d_Mo_invoice_0 rfl (lv_at hl 0 rfl) ?_
  refine lv_iconst (v := 0) hx hb d_Mo_invoice_1 (by decide) ?_
  refine va_put (D := (dC, dI)) (ci := 7) (v := .int 0) (ty := .int) (C := R_Mo) (T := F_Mo) (N := 31) hx hb hG iG_Mo t_Mo t_Mo_ok n_Mo hown hK hP hD hS 0 rfl rfl 0 (by decide) (hG _ k_523) (fun _ h9 => h9) rfl (by decide +kernel) rfl rfl (Nat.le_of_ble_eq_true rfl) d_Mo_invoice_2 (fun H locs hP hD hS => ?_)
  have hP : va_P (dC, dI) classes (mw ad cA 0 yr nf no nt bd nb fl AI AN AB AL) H := hP
  have hD : va_D A (mw ad cA 0 yr nf no nt bd nb fl AI AN AB AL) := hD
  refine lv_iload_n hx hb d_Mo_invoice_5 rfl (lv_at hl 1 rfl) ?_
  refine lv_i2l hx hb d_Mo_invoice_6 rfl ?_
  refine lv_lconst (v := 0) hx hb d_Mo_invoice_7 (by decide) ?_
  refine lv_aload_n hx hb d_Mo_invoice_8 rfl (lv_at hl 0 rfl) ?_
  refine va_get (D := (dC, dI)) (ci := 7) (v := .int (nI no)) (C := R_Mo) (T := F_Mo) (N := 31) hx hb hG iG_Mo hown hK hP 0 rfl rfl 6 (by decide) (hG _ k_529) (fun _ h9 => h9) rfl d_Mo_invoice_9 ?_
  refine lv_iconst (v := 1) hx hb d_Mo_invoice_12 (by decide) ?_
  refine lv_isub hx hb d_Mo_invoice_13 ?_
  refine lv_i2l hx hb d_Mo_invoice_14 rfl ?_
  refine rd_calli (va_runS (As := [.long (i0.toInt64), .long 0, .long ((nI no - 1).toInt64)]) (rest := []) ⟨hx, hb, hml, hown, hts⟩ (c_Mo_in l dC dI (mtys cA) (mw ad cA 0 yr nf no nt bd nb fl AI AN AB AL) (i0.toInt64) 0 ((nI no - 1).toInt64)) (cwS 3 hts (gd_S k_629 k_630 k_17 k_631) rfl rfl rfl (by decide +kernel) ⟨Nat.le_of_ble_eq_true rfl, Nat.le_of_ble_eq_true rfl⟩) (rd_preS hK hN hP) rfl rfl hl.1 rfl (lv_room (Nat.le_of_ble_eq_true rfl)) d_Mo_invoice_15 ⟨Nat.zero_le _, Nat.zero_le _⟩) (fun r_1 hr_1 => ?_)
  subst hr_1
  refine lb_if_ne (tgt := 25) hx hb d_Mo_invoice_18 (by decide) (fun c_2 => ?_) (fun c_2 => ?_)
  · obtain ⟨j, hj, rfl⟩ := inN_of (n := no) (by omega) c_2
    have ej : (nI j).toNatClampNeg = j := nI_clamp (by omega)
    have c_2n : inN (nI j) no = true := c_2
    refine lv_iload_n hx hb d_Mo_invoice_25 rfl (lv_at hl 2 rfl) ?_
    refine lv_i2l hx hb d_Mo_invoice_26 rfl ?_
    refine lv_lconst (v := 1) hx hb d_Mo_invoice_27 (by decide) ?_
    refine lv_ldc2 (own := R_Mo) (v := 1000000000) hx hb hown (hG _ k_658) d_Mo_invoice_28 ?_
    refine rd_calli (va_runS (As := [.long (c0.toInt64), .long 1, .long 1000000000]) (rest := []) ⟨hx, hb, hml, hown, hts⟩ (c_Mo_in l dC dI (mtys cA) (mw ad cA 0 yr nf no nt bd nb fl AI AN AB AL) (c0.toInt64) 1 1000000000) (cwS 3 hts (gd_S k_629 k_630 k_17 k_631) rfl rfl rfl (by decide +kernel) ⟨Nat.le_of_ble_eq_true rfl, Nat.le_of_ble_eq_true rfl⟩) (rd_preS hK hN hP) rfl rfl hl.1 rfl (lv_room (Nat.le_of_ble_eq_true rfl)) d_Mo_invoice_31 ⟨Nat.zero_le _, Nat.zero_le _⟩) (fun r_3 hr_3 => ?_)
    subst hr_3
    refine lb_if_eq (tgt := 62) hx hb d_Mo_invoice_34 (by decide) (fun c_4 => ?_) (fun c_4 => ?_)
    · refine lv_ldc2 (own := R_Mo) (v := (-2)) hx hb hown (hG _ k_675) d_Mo_invoice_62 ?_
      exact W.lret (v := (-2)) hx hb hr (fun t ht hW => ⟨⟨_, (0, yr, nf, no, nt, bd, nb, fl, AI, AN, AB, AL), rfl, (by simp [m_invoice, m_house, ixn, bI, ej, c_2, c_2n, c_4] <;> (repeat' apply And.intro) <;> rfl), by rw [ht]; exact hP, va_K.moved hW.alike hK, hD⟩, hS.F ht⟩) hS.2.2 d_Mo_invoice_65
    · refine lv_iload_n hx hb d_Mo_invoice_37 rfl (lv_at hl 3 rfl) ?_
      refine lv_i2l hx hb d_Mo_invoice_38 rfl ?_
      refine lv_lconst (v := 0) hx hb d_Mo_invoice_39 (by decide) ?_
      refine lv_ldc2 (own := R_Mo) (v := 9) hx hb hown (hG _ k_673) d_Mo_invoice_40 ?_
      refine rd_calli (va_runS (As := [.long (cu.toInt64), .long 0, .long 9]) (rest := []) ⟨hx, hb, hml, hown, hts⟩ (c_Mo_in l dC dI (mtys cA) (mw ad cA 0 yr nf no nt bd nb fl AI AN AB AL) (cu.toInt64) 0 9) (cwS 3 hts (gd_S k_629 k_630 k_17 k_631) rfl rfl rfl (by decide +kernel) ⟨Nat.le_of_ble_eq_true rfl, Nat.le_of_ble_eq_true rfl⟩) (rd_preS hK hN hP) rfl rfl hl.1 rfl (lv_room (Nat.le_of_ble_eq_true rfl)) d_Mo_invoice_43 ⟨Nat.zero_le _, Nat.zero_le _⟩) (fun r_5 hr_5 => ?_)
      subst hr_5
      refine lb_if_eq (tgt := 62) hx hb d_Mo_invoice_46 (by decide) (fun c_6 => ?_) (fun c_6 => ?_)
      · refine lv_ldc2 (own := R_Mo) (v := (-2)) hx hb hown (hG _ k_675) d_Mo_invoice_62 ?_
        exact W.lret (v := (-2)) hx hb hr (fun t ht hW => ⟨⟨_, (0, yr, nf, no, nt, bd, nb, fl, AI, AN, AB, AL), rfl, (by simp [m_invoice, m_house, ixn, bI, ej, c_2, c_2n, c_4, c_6] <;> (repeat' apply And.intro) <;> rfl), by rw [ht]; exact hP, va_K.moved hW.alike hK, hD⟩, hS.F ht⟩) hS.2.2 d_Mo_invoice_65
      · refine lv_iload hx hb d_Mo_invoice_49 (lv_at hl 4 rfl) ?_
        refine lv_i2l hx hb d_Mo_invoice_51 rfl ?_
        refine lv_lconst (v := 0) hx hb d_Mo_invoice_52 (by decide) ?_
        refine lv_ldc2 (own := R_Mo) (v := 100000) hx hb hown (hG _ k_674) d_Mo_invoice_53 ?_
        refine rd_calli (va_runS (As := [.long (on.toInt64), .long 0, .long 100000]) (rest := []) ⟨hx, hb, hml, hown, hts⟩ (c_Mo_in l dC dI (mtys cA) (mw ad cA 0 yr nf no nt bd nb fl AI AN AB AL) (on.toInt64) 0 100000) (cwS 3 hts (gd_S k_629 k_630 k_17 k_631) rfl rfl rfl (by decide +kernel) ⟨Nat.le_of_ble_eq_true rfl, Nat.le_of_ble_eq_true rfl⟩) (rd_preS hK hN hP) rfl rfl hl.1 rfl (lv_room (Nat.le_of_ble_eq_true rfl)) d_Mo_invoice_56 ⟨Nat.zero_le _, Nat.zero_le _⟩) (fun r_7 hr_7 => ?_)
        subst hr_7
        refine lb_if_ne (tgt := 66) hx hb d_Mo_invoice_59 (by decide) (fun c_8 => ?_) (fun c_8 => ?_)
        · obtain ⟨k, hk, rfl⟩ := in9 c_6
          have ek : (nI k).toNatClampNeg = k := nI_clamp (by omega)
          have hrk := hrw k hk
          have hfj := hfu j hj
          refine lv_aload_n hx hb d_Mo_invoice_66 rfl (lv_at hl 0 rfl) ?_
          refine va_get (D := (dC, dI)) (ci := 7) (v := .ref (ad 7)) (C := R_Mo) (T := F_Mo) (N := 31) hx hb hG iG_Mo hown hK hP 0 rfl rfl 10 (by decide) (hG _ k_533) (fun _ h9 => h9) rfl d_Mo_invoice_67 ?_
          refine lv_iload_n hx hb d_Mo_invoice_70 rfl (lv_at hl 1 rfl) ?_
          refine ra_iald (n := 300) (j := j) (f := AI 7) hx hb hK hP 7 6 rfl rfl (by omega) (by decide) d_Mo_invoice_71 ?_
          refine lv_iconst (v := 1) hx hb d_Mo_invoice_72 (by decide) ?_
          refine lv_icmp_ne (tgt := 99) hx hb d_Mo_invoice_73 (by decide) (fun c_9 => ?_) (fun c_9 => ?_)
          · refine lv_ldc2 (own := R_Mo) (v := (-3)) hx hb hown (hG _ k_676) d_Mo_invoice_99 ?_
            exact W.lret (v := (-3)) hx hb hr (fun t ht hW => ⟨⟨_, (0, yr, nf, no, nt, bd, nb, fl, AI, AN, AB, AL), rfl, (by simp [m_invoice, m_house, ixn, bI, ej, ek, c_2, c_2n, c_4, c_6, c_8, c_9] <;> (repeat' apply And.intro) <;> rfl), by rw [ht]; exact hP, va_K.moved hW.alike hK, hD⟩, hS.F ht⟩) hS.2.2 d_Mo_invoice_102
          · refine lv_aload_n hx hb d_Mo_invoice_76 rfl (lv_at hl 0 rfl) ?_
            refine va_get (D := (dC, dI)) (ci := 7) (v := .ref (ad 6)) (C := R_Mo) (T := F_Mo) (N := 31) hx hb hG iG_Mo hown hK hP 0 rfl rfl 9 (by decide) (hG _ k_532) (fun _ h9 => h9) rfl d_Mo_invoice_77 ?_
            refine lv_iload_n hx hb d_Mo_invoice_80 rfl (lv_at hl 1 rfl) ?_
            refine rb_zald (n := 300) (j := j) (g := AB 6) hx hb hK hP 6 5 rfl rfl (by omega) (by decide) d_Mo_invoice_81 ?_
            refine lb_if_eq (tgt := 103) hx hb d_Mo_invoice_82 (by decide) (fun c_10 => ?_) (fun c_10 => ?_)
            · refine lv_aload_n hx hb d_Mo_invoice_103 rfl (lv_at hl 0 rfl) ?_
              refine lv_iload_n hx hb d_Mo_invoice_104 rfl (lv_at hl 3 rfl) ?_
              refine lv_iload hx hb d_Mo_invoice_105 (lv_at hl 4 rfl) ?_
              refine rd_calli (va_runV (As := [.int (nI k), .int on]) (rest := []) ⟨hx, hb, hml, hown, hts⟩ (c_Mo_rowOn l dC dI ad cA 0 yr nf no nt bd nb fl AI AN AB AL k on (by omega) (by omega)) (cwV 2 hts (gd_V k_677 k_679 k_11 k_17 k_680) rfl rfl rfl (by decide +kernel) ⟨Nat.le_of_ble_eq_true rfl, Nat.le_of_ble_eq_true rfl⟩) (rd_preV 0 hK hN hP rfl rfl) rfl rfl hl.1 rfl (lv_room (Nat.le_of_ble_eq_true rfl)) d_Mo_invoice_107 ⟨Nat.zero_le _, Nat.zero_le _⟩) (fun r_11 hr_11 => ?_)
              subst hr_11
              rcases hro : m_rowOn AI AN k on with _ | r
              · refine lv_topI (y := (-1)) rfl ?_
                refine lv_istore (lv' := [(5, .int (-1)), (0, .ref (ad 0)), (1, .int (nI j)), (2, .int c0), (3, .int (nI k)), (4, .int on)]) hx hb d_Mo_invoice_110 hl (by decide) rfl (fun ls hl => ?_)
                refine lv_iload hx hb d_Mo_invoice_112 (lv_at hl 0 rfl) ?_
                refine lv_if_ge (tgt := 125) hx hb d_Mo_invoice_114 (by decide) (fun c_12 => ?_) (fun c_12 => ?_)
                · exact absurd c_12 (by decide)
                · refine lv_iload_n hx hb d_Mo_invoice_117 rfl (lv_at hl 4 rfl) ?_
                  refine lv_if_le (tgt := 125) hx hb d_Mo_invoice_118 (by decide) (fun c_13 => ?_) (fun c_13 => ?_)
                  · rw [← Int32.not_lt] at c_13
                    refine lv_iload hx hb d_Mo_invoice_125 (lv_at hl 0 rfl) ?_
                    refine lv_if_ge (tgt := 135) hx hb d_Mo_invoice_127 (by decide) (fun c_14 => ?_) (fun c_14 => ?_)
                    · exact absurd c_14 (by decide)
                    · refine lv_iload_n hx hb d_Mo_invoice_130 rfl (lv_at hl 3 rfl) ?_
                      refine lv_i2l hx hb d_Mo_invoice_131 rfl ?_
                      refine lv_goto (tgt := 155) hx hb d_Mo_invoice_132 (by decide) ?_
                      refine lv_lstore (lv' := [(6, .long (c0.toInt64)), (5, .int (-1)), (0, .ref (ad 0)), (1, .int (nI j)), (2, .int c0), (3, .int (nI k)), (4, .int on)]) hx hb d_Mo_invoice_155 hl (by decide) rfl (fun ls hl => ?_)
                      refine lv_aload_n hx hb d_Mo_invoice_157 rfl (lv_at hl 2 rfl) ?_
                      refine va_get (D := (dC, dI)) (ci := 7) (v := .ref (ad 5)) (C := R_Mo) (T := F_Mo) (N := 31) hx hb hG iG_Mo hown hK hP 0 rfl rfl 8 (by decide) (hG _ k_531) (fun _ h9 => h9) rfl d_Mo_invoice_158 ?_
                      refine lv_iload_n hx hb d_Mo_invoice_161 rfl (lv_at hl 3 rfl) ?_
                      refine ra_iald (n := 300) (j := j) (f := AI 5) hx hb hK hP 5 4 rfl rfl (by omega) (by decide) d_Mo_invoice_162 ?_
                      refine lv_i2l hx hb d_Mo_invoice_163 rfl ?_
                      refine lv_aload_n hx hb d_Mo_invoice_164 rfl (lv_at hl 2 rfl) ?_
                      refine va_get (D := (dC, dI)) (ci := 7) (v := .int bd) (C := R_Mo) (T := F_Mo) (N := 31) hx hb hG iG_Mo hown hK hP 0 rfl rfl 22 (by decide) (hG _ k_545) (fun _ h9 => h9) rfl d_Mo_invoice_165 ?_
                      refine lv_i2l hx hb d_Mo_invoice_168 rfl ?_
                      refine lv_lmul hx hb d_Mo_invoice_169 ?_
                      refine lv_ldc2 (own := R_Mo) (v := 1000) hx hb hown (hG _ k_682) d_Mo_invoice_170 ?_
                      refine lv_ldiv hx hb d_Mo_invoice_173 (by decide) ?_
                      refine lv_lstore (lv' := [(8, .long ((((AI 5 j).toInt64) * (bd.toInt64)) / 1000)), (6, .long (c0.toInt64)), (5, .int (-1)), (0, .ref (ad 0)), (1, .int (nI j)), (2, .int c0), (3, .int (nI k)), (4, .int on)]) hx hb d_Mo_invoice_174 hl (by decide) rfl (fun ls hl => ?_)
                      refine lv_lload hx hb d_Mo_invoice_176 (lv_at hl 1 rfl) ?_
                      refine lv_aload_n hx hb d_Mo_invoice_178 rfl (lv_at hl 3 rfl) ?_
                      refine va_get (D := (dC, dI)) (ci := 7) (v := .ref (ad 5)) (C := R_Mo) (T := F_Mo) (N := 31) hx hb hG iG_Mo hown hK hP 0 rfl rfl 8 (by decide) (hG _ k_531) (fun _ h9 => h9) rfl d_Mo_invoice_179 ?_
                      refine lv_iload_n hx hb d_Mo_invoice_182 rfl (lv_at hl 4 rfl) ?_
                      refine ra_iald (n := 300) (j := j) (f := AI 5) hx hb hK hP 5 4 rfl rfl (by omega) (by decide) d_Mo_invoice_183 ?_
                      refine lv_i2l hx hb d_Mo_invoice_184 rfl ?_
                      refine lv_lload hx hb d_Mo_invoice_185 (lv_at hl 0 rfl) ?_
                      refine lv_lsub hx hb d_Mo_invoice_187 ?_
                      refine lv_aload_n hx hb d_Mo_invoice_188 rfl (lv_at hl 3 rfl) ?_
                      refine va_get (D := (dC, dI)) (ci := 7) (v := .ref (ad 5)) (C := R_Mo) (T := F_Mo) (N := 31) hx hb hG iG_Mo hown hK hP 0 rfl rfl 8 (by decide) (hG _ k_531) (fun _ h9 => h9) rfl d_Mo_invoice_189 ?_
                      refine lv_iload_n hx hb d_Mo_invoice_192 rfl (lv_at hl 4 rfl) ?_
                      refine ra_iald (n := 300) (j := j) (f := AI 5) hx hb hK hP 5 4 rfl rfl (by omega) (by decide) d_Mo_invoice_193 ?_
                      refine lv_i2l hx hb d_Mo_invoice_194 rfl ?_
                      refine lv_lload hx hb d_Mo_invoice_195 (lv_at hl 0 rfl) ?_
                      refine lv_ladd hx hb d_Mo_invoice_197 ?_
                      refine rd_calli (va_runS (As := [.long (c0.toInt64), .long (((AI 5 j).toInt64) - ((((AI 5 j).toInt64) * (bd.toInt64)) / 1000)), .long (((AI 5 j).toInt64) + ((((AI 5 j).toInt64) * (bd.toInt64)) / 1000))]) (rest := []) ⟨hx, hb, hml, hown, hts⟩ (c_Mo_in l dC dI (mtys cA) (mw ad cA 0 yr nf no nt bd nb fl AI AN AB AL) (c0.toInt64) (((AI 5 j).toInt64) - ((((AI 5 j).toInt64) * (bd.toInt64)) / 1000)) (((AI 5 j).toInt64) + ((((AI 5 j).toInt64) * (bd.toInt64)) / 1000))) (cwS 3 hts (gd_S k_629 k_630 k_17 k_631) rfl rfl rfl (by decide +kernel) ⟨Nat.le_of_ble_eq_true rfl, Nat.le_of_ble_eq_true rfl⟩) (rd_preS hK hN hP) rfl rfl hl.1 rfl (lv_room (Nat.le_of_ble_eq_true rfl)) d_Mo_invoice_198 ⟨Nat.zero_le _, Nat.zero_le _⟩) (fun r_15 hr_15 => ?_)
                      subst hr_15
                      refine lb_if_ne (tgt := 208) hx hb d_Mo_invoice_201 (by decide) (fun c_16 => ?_) (fun c_16 => ?_)
                      · refine lv_aload_n hx hb d_Mo_invoice_208 rfl (lv_at hl 3 rfl) ?_
                        refine lv_aload_n hx hb d_Mo_invoice_209 rfl (lv_at hl 3 rfl) ?_
                        refine va_get (D := (dC, dI)) (ci := 7) (v := .ref (ad 4)) (C := R_Mo) (T := F_Mo) (N := 31) hx hb hG iG_Mo hown hK hP 0 rfl rfl 7 (by decide) (hG _ k_530) (fun _ h9 => h9) rfl d_Mo_invoice_210 ?_
                        refine lv_iload_n hx hb d_Mo_invoice_213 rfl (lv_at hl 4 rfl) ?_
                        refine rn_iald (n := 300) (j := j) (g := AN 4) hx hb hK hP 4 3 rfl rfl (by omega) (by decide) d_Mo_invoice_214 ?_
                        refine lv_lconst (v := 0) hx hb d_Mo_invoice_215 (by decide) ?_
                        refine lv_lload hx hb d_Mo_invoice_216 (lv_at hl 1 rfl) ?_
                        refine lv_aload_n hx hb d_Mo_invoice_218 rfl (lv_at hl 3 rfl) ?_
                        refine va_get (D := (dC, dI)) (ci := 7) (v := .ref (ad 6)) (C := R_Mo) (T := F_Mo) (N := 31) hx hb hG iG_Mo hown hK hP 0 rfl rfl 9 (by decide) (hG _ k_532) (fun _ h9 => h9) rfl d_Mo_invoice_219 ?_
                        refine lv_iload_n hx hb d_Mo_invoice_222 rfl (lv_at hl 4 rfl) ?_
                        refine rb_zald (n := 300) (j := j) (g := AB 6) hx hb hK hP 6 5 rfl rfl (by omega) (by decide) d_Mo_invoice_223 ?_
                        refine lb_if_eq (tgt := 231) hx hb d_Mo_invoice_224 (by decide) (fun c_17 => ?_) (fun c_17 => ?_)
                        · refine lv_aload_n hx hb d_Mo_invoice_231 rfl (lv_at hl 3 rfl) ?_
                          refine va_get (D := (dC, dI)) (ci := 7) (v := .ref (ad 5)) (C := R_Mo) (T := F_Mo) (N := 31) hx hb hG iG_Mo hown hK hP 0 rfl rfl 8 (by decide) (hG _ k_531) (fun _ h9 => h9) rfl d_Mo_invoice_232 ?_
                          refine lv_iload_n hx hb d_Mo_invoice_235 rfl (lv_at hl 4 rfl) ?_
                          refine ra_iald (n := 300) (j := j) (f := AI 5) hx hb hK hP 5 4 rfl rfl (by omega) (by decide) d_Mo_invoice_236 ?_
                          refine lv_i2l hx hb d_Mo_invoice_237 rfl ?_
                          refine rd_calli (va_runV (As := [.int (nI ((AN 4 j))), .long 0, .long (c0.toInt64), .long ((AI 5 j).toInt64)]) (rest := []) ⟨hx, hb, hml, hown, hts⟩ (c_Mo_fits l dC dI ad cA 0 yr nf no nt bd nb fl AI AN AB AL ((AN 4 j)) 0 (c0.toInt64) ((AI 5 j).toInt64) hno (by omega)) (cwV 4 hts (gd_V k_641 k_643 k_8 k_17 k_644) rfl rfl rfl (by decide +kernel) ⟨Nat.le_of_ble_eq_true rfl, Nat.le_of_ble_eq_true rfl⟩) (rd_preV 0 hK hN hP rfl rfl) rfl rfl hl.1 rfl (lv_room (Nat.le_of_ble_eq_true rfl)) d_Mo_invoice_238 ⟨Nat.zero_le _, Nat.zero_le _⟩) (fun r_18 hr_18 => ?_)
                          subst hr_18
                          refine lb_if_ne (tgt := 248) hx hb d_Mo_invoice_241 (by decide) (fun c_19 => ?_) (fun c_19 => ?_)
                          · refine lv_aload_n hx hb d_Mo_invoice_248 rfl (lv_at hl 3 rfl) ?_
                            refine va_get (D := (dC, dI)) (ci := 7) (v := .ref (ad 3)) (C := R_Mo) (T := F_Mo) (N := 31) hx hb hG iG_Mo hown hK hP 0 rfl rfl 5 (by decide) (hG _ k_528) (fun _ h9 => h9) rfl d_Mo_invoice_249 ?_
                            refine lv_aload_n hx hb d_Mo_invoice_252 rfl (lv_at hl 3 rfl) ?_
                            refine va_get (D := (dC, dI)) (ci := 7) (v := .ref (ad 4)) (C := R_Mo) (T := F_Mo) (N := 31) hx hb hG iG_Mo hown hK hP 0 rfl rfl 7 (by decide) (hG _ k_530) (fun _ h9 => h9) rfl d_Mo_invoice_253 ?_
                            refine lv_iload_n hx hb d_Mo_invoice_256 rfl (lv_at hl 4 rfl) ?_
                            refine rn_iald (n := 300) (j := j) (g := AN 4) hx hb hK hP 4 3 rfl rfl (by omega) (by decide) d_Mo_invoice_257 ?_
                            refine lv_dup2_11 hx hb d_Mo_invoice_258 rfl rfl ?_
                            refine ra_lald (n := 30) (j := ((AN 4 j))) (f := AL 3) hx hb hK hP 3 2 rfl rfl (by omega) (by decide) d_Mo_invoice_259 ?_
                            refine lv_lload hx hb d_Mo_invoice_260 (lv_at hl 1 rfl) ?_
                            refine lv_ladd hx hb d_Mo_invoice_262 ?_
                            refine ra_last (n := 30) (j := ((AN 4 j))) (f := AL 3) hx hb hK hP hD hS 3 2 rfl rfl (by omega) (by decide) d_Mo_invoice_263 (fun H locs hP hD hS => ?_)
                            have hP : va_P (dC, dI) classes (mw ad cA 0 yr nf no nt bd nb fl AI AN AB (va_up AL 3 (va_up (AL 3) ((AN 4 j)) ((AL 3 ((AN 4 j))) + (c0.toInt64))))) H := hP
                            have hD : va_D A (mw ad cA 0 yr nf no nt bd nb fl AI AN AB (va_up AL 3 (va_up (AL 3) ((AN 4 j)) ((AL 3 ((AN 4 j))) + (c0.toInt64))))) := hD
                            refine lv_aload_n hx hb d_Mo_invoice_264 rfl (lv_at hl 3 rfl) ?_
                            refine va_get (D := (dC, dI)) (ci := 7) (v := .ref (ad 10)) (C := R_Mo) (T := F_Mo) (N := 31) hx hb hG iG_Mo hown hK hP 0 rfl rfl 13 (by decide) (hG _ k_536) (fun _ h9 => h9) rfl d_Mo_invoice_265 ?_
                            refine lv_iload_n hx hb d_Mo_invoice_268 rfl (lv_at hl 4 rfl) ?_
                            refine lv_lload hx hb d_Mo_invoice_269 (lv_at hl 1 rfl) ?_
                            refine lv_aload_n hx hb d_Mo_invoice_271 rfl (lv_at hl 3 rfl) ?_
                            refine va_get (D := (dC, dI)) (ci := 7) (v := .ref (ad 5)) (C := R_Mo) (T := F_Mo) (N := 31) hx hb hG iG_Mo hown hK hP 0 rfl rfl 8 (by decide) (hG _ k_531) (fun _ h9 => h9) rfl d_Mo_invoice_272 ?_
                            refine lv_iload_n hx hb d_Mo_invoice_275 rfl (lv_at hl 4 rfl) ?_
                            refine ra_iald (n := 300) (j := j) (f := AI 5) hx hb hK hP 5 4 rfl rfl (by omega) (by decide) d_Mo_invoice_276 ?_
                            refine lv_i2l hx hb d_Mo_invoice_277 rfl ?_
                            refine lv_lsub hx hb d_Mo_invoice_278 ?_
                            refine ra_last (n := 300) (j := j) (f := AL 10) hx hb hK hP hD hS 10 9 rfl rfl (by omega) (by decide) d_Mo_invoice_279 (fun H locs hP hD hS => ?_)
                            have hP : va_P (dC, dI) classes (mw ad cA 0 yr nf no nt bd nb fl AI AN AB (va_up (va_up AL 3 (va_up (AL 3) ((AN 4 j)) ((AL 3 ((AN 4 j))) + (c0.toInt64)))) 10 (va_up (AL 10) j ((c0.toInt64) - ((AI 5 j).toInt64))))) H := hP
                            have hD : va_D A (mw ad cA 0 yr nf no nt bd nb fl AI AN AB (va_up (va_up AL 3 (va_up (AL 3) ((AN 4 j)) ((AL 3 ((AN 4 j))) + (c0.toInt64)))) 10 (va_up (AL 10) j ((c0.toInt64) - ((AI 5 j).toInt64))))) := hD
                            refine lv_aload_n hx hb d_Mo_invoice_280 rfl (lv_at hl 3 rfl) ?_
                            refine va_get (D := (dC, dI)) (ci := 7) (v := .ref (ad 11)) (C := R_Mo) (T := F_Mo) (N := 31) hx hb hG iG_Mo hown hK hP 0 rfl rfl 14 (by decide) (hG _ k_537) (fun _ h9 => h9) rfl d_Mo_invoice_281 ?_
                            refine lv_iload_n hx hb d_Mo_invoice_284 rfl (lv_at hl 4 rfl) ?_
                            refine lv_dup2_11 hx hb d_Mo_invoice_285 rfl rfl ?_
                            refine ra_iald (n := 300) (j := j) (f := AI 11) hx hb hK hP 11 10 rfl rfl (by omega) (by decide) d_Mo_invoice_286 ?_
                            refine lv_iconst (v := 1) hx hb d_Mo_invoice_287 (by decide) ?_
                            refine lv_iadd hx hb d_Mo_invoice_288 ?_
                            refine ra_iast (n := 300) (j := j) (f := AI 11) hx hb hK hP hD hS 11 10 rfl rfl (by omega) (by decide) d_Mo_invoice_289 (fun H locs hP hD hS => ?_)
                            have hP : va_P (dC, dI) classes (mw ad cA 0 yr nf no nt bd nb fl (va_up AI 11 (va_up (AI 11) j ((AI 11 j) + 1))) AN AB (va_up (va_up AL 3 (va_up (AL 3) ((AN 4 j)) ((AL 3 ((AN 4 j))) + (c0.toInt64)))) 10 (va_up (AL 10) j ((c0.toInt64) - ((AI 5 j).toInt64))))) H := hP
                            have hD : va_D A (mw ad cA 0 yr nf no nt bd nb fl (va_up AI 11 (va_up (AI 11) j ((AI 11 j) + 1))) AN AB (va_up (va_up AL 3 (va_up (AL 3) ((AN 4 j)) ((AL 3 ((AN 4 j))) + (c0.toInt64)))) 10 (va_up (AL 10) j ((c0.toInt64) - ((AI 5 j).toInt64))))) := hD
                            refine lv_aload_n hx hb d_Mo_invoice_290 rfl (lv_at hl 3 rfl) ?_
                            refine va_get (D := (dC, dI)) (ci := 7) (v := .ref (ad 12)) (C := R_Mo) (T := F_Mo) (N := 31) hx hb hG iG_Mo hown hK hP 0 rfl rfl 15 (by decide) (hG _ k_538) (fun _ h9 => h9) rfl d_Mo_invoice_291 ?_
                            refine lv_iload_n hx hb d_Mo_invoice_294 rfl (lv_at hl 4 rfl) ?_
                            refine lv_iload hx hb d_Mo_invoice_295 (lv_at hl 7 rfl) ?_
                            refine lv_bipush (v := 30) hx hb d_Mo_invoice_297 (by decide) ?_
                            refine lv_idiv hx hb d_Mo_invoice_299 (by decide) ?_
                            refine ra_iast (n := 300) (j := j) (f := AI 12) hx hb hK hP hD hS 12 11 rfl rfl (by omega) (by decide) d_Mo_invoice_300 (fun H locs hP hD hS => ?_)
                            have hP : va_P (dC, dI) classes (mw ad cA 0 yr nf no nt bd nb fl (va_up (va_up AI 11 (va_up (AI 11) j ((AI 11 j) + 1))) 12 (va_up (AI 12) j (on / 30))) AN AB (va_up (va_up AL 3 (va_up (AL 3) ((AN 4 j)) ((AL 3 ((AN 4 j))) + (c0.toInt64)))) 10 (va_up (AL 10) j ((c0.toInt64) - ((AI 5 j).toInt64))))) H := hP
                            have hD : va_D A (mw ad cA 0 yr nf no nt bd nb fl (va_up (va_up AI 11 (va_up (AI 11) j ((AI 11 j) + 1))) 12 (va_up (AI 12) j (on / 30))) AN AB (va_up (va_up AL 3 (va_up (AL 3) ((AN 4 j)) ((AL 3 ((AN 4 j))) + (c0.toInt64)))) 10 (va_up (AL 10) j ((c0.toInt64) - ((AI 5 j).toInt64))))) := hD
                            refine lv_aload_n hx hb d_Mo_invoice_301 rfl (lv_at hl 3 rfl) ?_
                            refine va_get (D := (dC, dI)) (ci := 7) (v := .ref (ad 6)) (C := R_Mo) (T := F_Mo) (N := 31) hx hb hG iG_Mo hown hK hP 0 rfl rfl 9 (by decide) (hG _ k_532) (fun _ h9 => h9) rfl d_Mo_invoice_302 ?_
                            refine lv_iload_n hx hb d_Mo_invoice_305 rfl (lv_at hl 4 rfl) ?_
                            refine rb_zald (n := 300) (j := j) (g := AB 6) hx hb hK hP 6 5 rfl rfl (by omega) (by decide) d_Mo_invoice_306 ?_
                            refine lb_if_ne (tgt := 317) hx hb d_Mo_invoice_307 (by decide) (fun c_20 => ?_) (fun c_20 => ?_)
                            · exact absurd (c_10.symm.trans c_20) (by decide)
                            · refine lv_aload_n hx hb d_Mo_invoice_310 rfl (lv_at hl 3 rfl) ?_
                              refine va_get (D := (dC, dI)) (ci := 7) (v := .ref (ad 7)) (C := R_Mo) (T := F_Mo) (N := 31) hx hb hG iG_Mo hown hK hP 0 rfl rfl 10 (by decide) (hG _ k_533) (fun _ h9 => h9) rfl d_Mo_invoice_311 ?_
                              refine lv_iload_n hx hb d_Mo_invoice_314 rfl (lv_at hl 4 rfl) ?_
                              refine lv_iconst (v := 2) hx hb d_Mo_invoice_315 (by decide) ?_
                              refine ra_iast (n := 300) (j := j) (f := AI 7) hx hb hK hP hD hS 7 6 rfl rfl (by omega) (by decide) d_Mo_invoice_316 (fun H locs hP hD hS => ?_)
                              have hP : va_P (dC, dI) classes (mw ad cA 0 yr nf no nt bd nb fl (va_up (va_up (va_up AI 11 (va_up (AI 11) j ((AI 11 j) + 1))) 12 (va_up (AI 12) j (on / 30))) 7 (va_up (AI 7) j 2)) AN AB (va_up (va_up AL 3 (va_up (AL 3) ((AN 4 j)) ((AL 3 ((AN 4 j))) + (c0.toInt64)))) 10 (va_up (AL 10) j ((c0.toInt64) - ((AI 5 j).toInt64))))) H := hP
                              have hD : va_D A (mw ad cA 0 yr nf no nt bd nb fl (va_up (va_up (va_up AI 11 (va_up (AI 11) j ((AI 11 j) + 1))) 12 (va_up (AI 12) j (on / 30))) 7 (va_up (AI 7) j 2)) AN AB (va_up (va_up AL 3 (va_up (AL 3) ((AN 4 j)) ((AL 3 ((AN 4 j))) + (c0.toInt64)))) 10 (va_up (AL 10) j ((c0.toInt64) - ((AI 5 j).toInt64))))) := hD
                              refine lv_lload hx hb d_Mo_invoice_317 (lv_at hl 1 rfl) ?_
                              exact W.lret (v := (c0.toInt64)) hx hb hr (fun t ht hW => ⟨⟨_, (0, yr, nf, no, nt, bd, nb, fl, va_up (va_up (va_up AI 11 (va_up (AI 11) j ((AI 11 j) + 1))) 12 (va_up (AI 12) j (on / 30))) 7 (va_up (AI 7) j 2), AN, AB, va_up (va_up AL 3 (va_up (AL 3) ((AN 4 j)) ((AL 3 ((AN 4 j))) + (c0.toInt64)))) 10 (va_up (AL 10) j ((c0.toInt64) - ((AI 5 j).toInt64)))), rfl, (by simp [m_invoice, m_house, ixn, bI, ej, ek, c_2, c_2n, c_4, c_6, c_8, c_9, c_10, hro, c_13, c_16, c_19] <;> (repeat' apply And.intro) <;> rfl), by rw [ht]; exact hP, va_K.moved hW.alike hK, hD⟩, hS.F ht⟩) hS.2.2 d_Mo_invoice_319
                          · refine lv_ldc2 (own := R_Mo) (v := (-4)) hx hb hown (hG _ k_684) d_Mo_invoice_244 ?_
                            exact W.lret (v := (-4)) hx hb hr (fun t ht hW => ⟨⟨_, (0, yr, nf, no, nt, bd, nb, fl, AI, AN, AB, AL), rfl, (by simp [m_invoice, m_house, ixn, bI, ej, ek, c_2, c_2n, c_4, c_6, c_8, c_9, c_10, hro, c_13, c_16, c_19] <;> (repeat' apply And.intro) <;> rfl), by rw [ht]; exact hP, va_K.moved hW.alike hK, hD⟩, hS.F ht⟩) hS.2.2 d_Mo_invoice_247
                        · exact absurd (c_10.symm.trans c_17) (by decide)
                      · refine lv_ldc2 (own := R_Mo) (v := (-5)) hx hb hown (hG _ k_683) d_Mo_invoice_204 ?_
                        exact W.lret (v := (-5)) hx hb hr (fun t ht hW => ⟨⟨_, (0, yr, nf, no, nt, bd, nb, fl, AI, AN, AB, AL), rfl, (by simp [m_invoice, m_house, ixn, bI, ej, ek, c_2, c_2n, c_4, c_6, c_8, c_9, c_10, hro, c_13, c_16] <;> (repeat' apply And.intro) <;> rfl), by rw [ht]; exact hP, va_K.moved hW.alike hK, hD⟩, hS.F ht⟩) hS.2.2 d_Mo_invoice_207
                  · rw [Int32.not_le] at c_13
                    refine lv_ldc2 (own := R_Mo) (v := (-6)) hx hb hown (hG _ k_681) d_Mo_invoice_121 ?_
                    exact W.lret (v := (-6)) hx hb hr (fun t ht hW => ⟨⟨_, (0, yr, nf, no, nt, bd, nb, fl, AI, AN, AB, AL), rfl, (by simp [m_invoice, m_house, ixn, bI, ej, ek, c_2, c_2n, c_4, c_6, c_8, c_9, c_10, hro, c_13] <;> (repeat' apply And.intro) <;> rfl), by rw [ht]; exact hP, va_K.moved hW.alike hK, hD⟩, hS.F ht⟩) hS.2.2 d_Mo_invoice_124
              · have hr10 : r < AN 18 k := lst_lt hro
                refine lv_topI (y := nI (10 * k + r)) rfl ?_
                refine lv_istore (lv' := [(5, .int (nI (10 * k + r))), (0, .ref (ad 0)), (1, .int (nI j)), (2, .int c0), (3, .int (nI k)), (4, .int on)]) hx hb d_Mo_invoice_110 hl (by decide) rfl (fun ls hl => ?_)
                refine lv_iload hx hb d_Mo_invoice_112 (lv_at hl 0 rfl) ?_
                refine lv_if_ge (tgt := 125) hx hb d_Mo_invoice_114 (by decide) (fun c_21 => ?_) (fun c_21 => ?_)
                · refine lv_iload hx hb d_Mo_invoice_125 (lv_at hl 0 rfl) ?_
                  refine lv_if_ge (tgt := 135) hx hb d_Mo_invoice_127 (by decide) (fun c_22 => ?_) (fun c_22 => ?_)
                  · refine lv_iload_n hx hb d_Mo_invoice_135 rfl (lv_at hl 3 rfl) ?_
                    refine lv_i2l hx hb d_Mo_invoice_136 rfl ?_
                    refine lv_aload_n hx hb d_Mo_invoice_137 rfl (lv_at hl 1 rfl) ?_
                    refine va_get (D := (dC, dI)) (ci := 7) (v := .ref (ad 20)) (C := R_Mo) (T := F_Mo) (N := 31) hx hb hG iG_Mo hown hK hP 0 rfl rfl 25 (by decide) (hG _ k_548) (fun _ h9 => h9) rfl d_Mo_invoice_138 ?_
                    refine lv_iload hx hb d_Mo_invoice_141 (lv_at hl 0 rfl) ?_
                    refine ra_iald (n := 100) (j := (10 * k + r)) (f := AI 20) hx hb hK hP 20 19 rfl rfl (by omega) (by decide) d_Mo_invoice_143 ?_
                    refine lv_i2l hx hb d_Mo_invoice_144 rfl ?_
                    refine lv_lmul hx hb d_Mo_invoice_145 ?_
                    refine lv_aload_n hx hb d_Mo_invoice_146 rfl (lv_at hl 1 rfl) ?_
                    refine va_get (D := (dC, dI)) (ci := 7) (v := .ref (ad 21)) (C := R_Mo) (T := F_Mo) (N := 31) hx hb hG iG_Mo hown hK hP 0 rfl rfl 26 (by decide) (hG _ k_549) (fun _ h9 => h9) rfl d_Mo_invoice_147 ?_
                    refine lv_iload hx hb d_Mo_invoice_150 (lv_at hl 0 rfl) ?_
                    refine ra_iald (n := 100) (j := (10 * k + r)) (f := AI 21) hx hb hK hP 21 20 rfl rfl (by omega) (by decide) d_Mo_invoice_152 ?_
                    refine lv_i2l hx hb d_Mo_invoice_153 rfl ?_
                    refine lv_ldiv hx hb d_Mo_invoice_154 (ne0_64 (hdn k r hk hr10)) ?_
                    refine lv_lstore (lv' := [(6, .long (((c0.toInt64) * ((AI 20 (10 * k + r)).toInt64)) / ((AI 21 (10 * k + r)).toInt64))), (5, .int (nI (10 * k + r))), (0, .ref (ad 0)), (1, .int (nI j)), (2, .int c0), (3, .int (nI k)), (4, .int on)]) hx hb d_Mo_invoice_155 hl (by decide) rfl (fun ls hl => ?_)
                    refine lv_aload_n hx hb d_Mo_invoice_157 rfl (lv_at hl 2 rfl) ?_
                    refine va_get (D := (dC, dI)) (ci := 7) (v := .ref (ad 5)) (C := R_Mo) (T := F_Mo) (N := 31) hx hb hG iG_Mo hown hK hP 0 rfl rfl 8 (by decide) (hG _ k_531) (fun _ h9 => h9) rfl d_Mo_invoice_158 ?_
                    refine lv_iload_n hx hb d_Mo_invoice_161 rfl (lv_at hl 3 rfl) ?_
                    refine ra_iald (n := 300) (j := j) (f := AI 5) hx hb hK hP 5 4 rfl rfl (by omega) (by decide) d_Mo_invoice_162 ?_
                    refine lv_i2l hx hb d_Mo_invoice_163 rfl ?_
                    refine lv_aload_n hx hb d_Mo_invoice_164 rfl (lv_at hl 2 rfl) ?_
                    refine va_get (D := (dC, dI)) (ci := 7) (v := .int bd) (C := R_Mo) (T := F_Mo) (N := 31) hx hb hG iG_Mo hown hK hP 0 rfl rfl 22 (by decide) (hG _ k_545) (fun _ h9 => h9) rfl d_Mo_invoice_165 ?_
                    refine lv_i2l hx hb d_Mo_invoice_168 rfl ?_
                    refine lv_lmul hx hb d_Mo_invoice_169 ?_
                    refine lv_ldc2 (own := R_Mo) (v := 1000) hx hb hown (hG _ k_682) d_Mo_invoice_170 ?_
                    refine lv_ldiv hx hb d_Mo_invoice_173 (by decide) ?_
                    refine lv_lstore (lv' := [(8, .long ((((AI 5 j).toInt64) * (bd.toInt64)) / 1000)), (6, .long (((c0.toInt64) * ((AI 20 (10 * k + r)).toInt64)) / ((AI 21 (10 * k + r)).toInt64))), (5, .int (nI (10 * k + r))), (0, .ref (ad 0)), (1, .int (nI j)), (2, .int c0), (3, .int (nI k)), (4, .int on)]) hx hb d_Mo_invoice_174 hl (by decide) rfl (fun ls hl => ?_)
                    refine lv_lload hx hb d_Mo_invoice_176 (lv_at hl 1 rfl) ?_
                    refine lv_aload_n hx hb d_Mo_invoice_178 rfl (lv_at hl 3 rfl) ?_
                    refine va_get (D := (dC, dI)) (ci := 7) (v := .ref (ad 5)) (C := R_Mo) (T := F_Mo) (N := 31) hx hb hG iG_Mo hown hK hP 0 rfl rfl 8 (by decide) (hG _ k_531) (fun _ h9 => h9) rfl d_Mo_invoice_179 ?_
                    refine lv_iload_n hx hb d_Mo_invoice_182 rfl (lv_at hl 4 rfl) ?_
                    refine ra_iald (n := 300) (j := j) (f := AI 5) hx hb hK hP 5 4 rfl rfl (by omega) (by decide) d_Mo_invoice_183 ?_
                    refine lv_i2l hx hb d_Mo_invoice_184 rfl ?_
                    refine lv_lload hx hb d_Mo_invoice_185 (lv_at hl 0 rfl) ?_
                    refine lv_lsub hx hb d_Mo_invoice_187 ?_
                    refine lv_aload_n hx hb d_Mo_invoice_188 rfl (lv_at hl 3 rfl) ?_
                    refine va_get (D := (dC, dI)) (ci := 7) (v := .ref (ad 5)) (C := R_Mo) (T := F_Mo) (N := 31) hx hb hG iG_Mo hown hK hP 0 rfl rfl 8 (by decide) (hG _ k_531) (fun _ h9 => h9) rfl d_Mo_invoice_189 ?_
                    refine lv_iload_n hx hb d_Mo_invoice_192 rfl (lv_at hl 4 rfl) ?_
                    refine ra_iald (n := 300) (j := j) (f := AI 5) hx hb hK hP 5 4 rfl rfl (by omega) (by decide) d_Mo_invoice_193 ?_
                    refine lv_i2l hx hb d_Mo_invoice_194 rfl ?_
                    refine lv_lload hx hb d_Mo_invoice_195 (lv_at hl 0 rfl) ?_
                    refine lv_ladd hx hb d_Mo_invoice_197 ?_
                    refine rd_calli (va_runS (As := [.long (((c0.toInt64) * ((AI 20 (10 * k + r)).toInt64)) / ((AI 21 (10 * k + r)).toInt64)), .long (((AI 5 j).toInt64) - ((((AI 5 j).toInt64) * (bd.toInt64)) / 1000)), .long (((AI 5 j).toInt64) + ((((AI 5 j).toInt64) * (bd.toInt64)) / 1000))]) (rest := []) ⟨hx, hb, hml, hown, hts⟩ (c_Mo_in l dC dI (mtys cA) (mw ad cA 0 yr nf no nt bd nb fl AI AN AB AL) (((c0.toInt64) * ((AI 20 (10 * k + r)).toInt64)) / ((AI 21 (10 * k + r)).toInt64)) (((AI 5 j).toInt64) - ((((AI 5 j).toInt64) * (bd.toInt64)) / 1000)) (((AI 5 j).toInt64) + ((((AI 5 j).toInt64) * (bd.toInt64)) / 1000))) (cwS 3 hts (gd_S k_629 k_630 k_17 k_631) rfl rfl rfl (by decide +kernel) ⟨Nat.le_of_ble_eq_true rfl, Nat.le_of_ble_eq_true rfl⟩) (rd_preS hK hN hP) rfl rfl hl.1 rfl (lv_room (Nat.le_of_ble_eq_true rfl)) d_Mo_invoice_198 ⟨Nat.zero_le _, Nat.zero_le _⟩) (fun r_23 hr_23 => ?_)
                    subst hr_23
                    refine lb_if_ne (tgt := 208) hx hb d_Mo_invoice_201 (by decide) (fun c_24 => ?_) (fun c_24 => ?_)
                    · refine lv_aload_n hx hb d_Mo_invoice_208 rfl (lv_at hl 3 rfl) ?_
                      refine lv_aload_n hx hb d_Mo_invoice_209 rfl (lv_at hl 3 rfl) ?_
                      refine va_get (D := (dC, dI)) (ci := 7) (v := .ref (ad 4)) (C := R_Mo) (T := F_Mo) (N := 31) hx hb hG iG_Mo hown hK hP 0 rfl rfl 7 (by decide) (hG _ k_530) (fun _ h9 => h9) rfl d_Mo_invoice_210 ?_
                      refine lv_iload_n hx hb d_Mo_invoice_213 rfl (lv_at hl 4 rfl) ?_
                      refine rn_iald (n := 300) (j := j) (g := AN 4) hx hb hK hP 4 3 rfl rfl (by omega) (by decide) d_Mo_invoice_214 ?_
                      refine lv_lconst (v := 0) hx hb d_Mo_invoice_215 (by decide) ?_
                      refine lv_lload hx hb d_Mo_invoice_216 (lv_at hl 1 rfl) ?_
                      refine lv_aload_n hx hb d_Mo_invoice_218 rfl (lv_at hl 3 rfl) ?_
                      refine va_get (D := (dC, dI)) (ci := 7) (v := .ref (ad 6)) (C := R_Mo) (T := F_Mo) (N := 31) hx hb hG iG_Mo hown hK hP 0 rfl rfl 9 (by decide) (hG _ k_532) (fun _ h9 => h9) rfl d_Mo_invoice_219 ?_
                      refine lv_iload_n hx hb d_Mo_invoice_222 rfl (lv_at hl 4 rfl) ?_
                      refine rb_zald (n := 300) (j := j) (g := AB 6) hx hb hK hP 6 5 rfl rfl (by omega) (by decide) d_Mo_invoice_223 ?_
                      refine lb_if_eq (tgt := 231) hx hb d_Mo_invoice_224 (by decide) (fun c_25 => ?_) (fun c_25 => ?_)
                      · refine lv_aload_n hx hb d_Mo_invoice_231 rfl (lv_at hl 3 rfl) ?_
                        refine va_get (D := (dC, dI)) (ci := 7) (v := .ref (ad 5)) (C := R_Mo) (T := F_Mo) (N := 31) hx hb hG iG_Mo hown hK hP 0 rfl rfl 8 (by decide) (hG _ k_531) (fun _ h9 => h9) rfl d_Mo_invoice_232 ?_
                        refine lv_iload_n hx hb d_Mo_invoice_235 rfl (lv_at hl 4 rfl) ?_
                        refine ra_iald (n := 300) (j := j) (f := AI 5) hx hb hK hP 5 4 rfl rfl (by omega) (by decide) d_Mo_invoice_236 ?_
                        refine lv_i2l hx hb d_Mo_invoice_237 rfl ?_
                        refine rd_calli (va_runV (As := [.int (nI ((AN 4 j))), .long 0, .long (((c0.toInt64) * ((AI 20 (10 * k + r)).toInt64)) / ((AI 21 (10 * k + r)).toInt64)), .long ((AI 5 j).toInt64)]) (rest := []) ⟨hx, hb, hml, hown, hts⟩ (c_Mo_fits l dC dI ad cA 0 yr nf no nt bd nb fl AI AN AB AL ((AN 4 j)) 0 (((c0.toInt64) * ((AI 20 (10 * k + r)).toInt64)) / ((AI 21 (10 * k + r)).toInt64)) ((AI 5 j).toInt64) hno (by omega)) (cwV 4 hts (gd_V k_641 k_643 k_8 k_17 k_644) rfl rfl rfl (by decide +kernel) ⟨Nat.le_of_ble_eq_true rfl, Nat.le_of_ble_eq_true rfl⟩) (rd_preV 0 hK hN hP rfl rfl) rfl rfl hl.1 rfl (lv_room (Nat.le_of_ble_eq_true rfl)) d_Mo_invoice_238 ⟨Nat.zero_le _, Nat.zero_le _⟩) (fun r_26 hr_26 => ?_)
                        subst hr_26
                        refine lb_if_ne (tgt := 248) hx hb d_Mo_invoice_241 (by decide) (fun c_27 => ?_) (fun c_27 => ?_)
                        · refine lv_aload_n hx hb d_Mo_invoice_248 rfl (lv_at hl 3 rfl) ?_
                          refine va_get (D := (dC, dI)) (ci := 7) (v := .ref (ad 3)) (C := R_Mo) (T := F_Mo) (N := 31) hx hb hG iG_Mo hown hK hP 0 rfl rfl 5 (by decide) (hG _ k_528) (fun _ h9 => h9) rfl d_Mo_invoice_249 ?_
                          refine lv_aload_n hx hb d_Mo_invoice_252 rfl (lv_at hl 3 rfl) ?_
                          refine va_get (D := (dC, dI)) (ci := 7) (v := .ref (ad 4)) (C := R_Mo) (T := F_Mo) (N := 31) hx hb hG iG_Mo hown hK hP 0 rfl rfl 7 (by decide) (hG _ k_530) (fun _ h9 => h9) rfl d_Mo_invoice_253 ?_
                          refine lv_iload_n hx hb d_Mo_invoice_256 rfl (lv_at hl 4 rfl) ?_
                          refine rn_iald (n := 300) (j := j) (g := AN 4) hx hb hK hP 4 3 rfl rfl (by omega) (by decide) d_Mo_invoice_257 ?_
                          refine lv_dup2_11 hx hb d_Mo_invoice_258 rfl rfl ?_
                          refine ra_lald (n := 30) (j := ((AN 4 j))) (f := AL 3) hx hb hK hP 3 2 rfl rfl (by omega) (by decide) d_Mo_invoice_259 ?_
                          refine lv_lload hx hb d_Mo_invoice_260 (lv_at hl 1 rfl) ?_
                          refine lv_ladd hx hb d_Mo_invoice_262 ?_
                          refine ra_last (n := 30) (j := ((AN 4 j))) (f := AL 3) hx hb hK hP hD hS 3 2 rfl rfl (by omega) (by decide) d_Mo_invoice_263 (fun H locs hP hD hS => ?_)
                          have hP : va_P (dC, dI) classes (mw ad cA 0 yr nf no nt bd nb fl AI AN AB (va_up AL 3 (va_up (AL 3) ((AN 4 j)) ((AL 3 ((AN 4 j))) + (((c0.toInt64) * ((AI 20 (10 * k + r)).toInt64)) / ((AI 21 (10 * k + r)).toInt64)))))) H := hP
                          have hD : va_D A (mw ad cA 0 yr nf no nt bd nb fl AI AN AB (va_up AL 3 (va_up (AL 3) ((AN 4 j)) ((AL 3 ((AN 4 j))) + (((c0.toInt64) * ((AI 20 (10 * k + r)).toInt64)) / ((AI 21 (10 * k + r)).toInt64)))))) := hD
                          refine lv_aload_n hx hb d_Mo_invoice_264 rfl (lv_at hl 3 rfl) ?_
                          refine va_get (D := (dC, dI)) (ci := 7) (v := .ref (ad 10)) (C := R_Mo) (T := F_Mo) (N := 31) hx hb hG iG_Mo hown hK hP 0 rfl rfl 13 (by decide) (hG _ k_536) (fun _ h9 => h9) rfl d_Mo_invoice_265 ?_
                          refine lv_iload_n hx hb d_Mo_invoice_268 rfl (lv_at hl 4 rfl) ?_
                          refine lv_lload hx hb d_Mo_invoice_269 (lv_at hl 1 rfl) ?_
                          refine lv_aload_n hx hb d_Mo_invoice_271 rfl (lv_at hl 3 rfl) ?_
                          refine va_get (D := (dC, dI)) (ci := 7) (v := .ref (ad 5)) (C := R_Mo) (T := F_Mo) (N := 31) hx hb hG iG_Mo hown hK hP 0 rfl rfl 8 (by decide) (hG _ k_531) (fun _ h9 => h9) rfl d_Mo_invoice_272 ?_
                          refine lv_iload_n hx hb d_Mo_invoice_275 rfl (lv_at hl 4 rfl) ?_
                          refine ra_iald (n := 300) (j := j) (f := AI 5) hx hb hK hP 5 4 rfl rfl (by omega) (by decide) d_Mo_invoice_276 ?_
                          refine lv_i2l hx hb d_Mo_invoice_277 rfl ?_
                          refine lv_lsub hx hb d_Mo_invoice_278 ?_
                          refine ra_last (n := 300) (j := j) (f := AL 10) hx hb hK hP hD hS 10 9 rfl rfl (by omega) (by decide) d_Mo_invoice_279 (fun H locs hP hD hS => ?_)
                          have hP : va_P (dC, dI) classes (mw ad cA 0 yr nf no nt bd nb fl AI AN AB (va_up (va_up AL 3 (va_up (AL 3) ((AN 4 j)) ((AL 3 ((AN 4 j))) + (((c0.toInt64) * ((AI 20 (10 * k + r)).toInt64)) / ((AI 21 (10 * k + r)).toInt64))))) 10 (va_up (AL 10) j ((((c0.toInt64) * ((AI 20 (10 * k + r)).toInt64)) / ((AI 21 (10 * k + r)).toInt64)) - ((AI 5 j).toInt64))))) H := hP
                          have hD : va_D A (mw ad cA 0 yr nf no nt bd nb fl AI AN AB (va_up (va_up AL 3 (va_up (AL 3) ((AN 4 j)) ((AL 3 ((AN 4 j))) + (((c0.toInt64) * ((AI 20 (10 * k + r)).toInt64)) / ((AI 21 (10 * k + r)).toInt64))))) 10 (va_up (AL 10) j ((((c0.toInt64) * ((AI 20 (10 * k + r)).toInt64)) / ((AI 21 (10 * k + r)).toInt64)) - ((AI 5 j).toInt64))))) := hD
                          refine lv_aload_n hx hb d_Mo_invoice_280 rfl (lv_at hl 3 rfl) ?_
                          refine va_get (D := (dC, dI)) (ci := 7) (v := .ref (ad 11)) (C := R_Mo) (T := F_Mo) (N := 31) hx hb hG iG_Mo hown hK hP 0 rfl rfl 14 (by decide) (hG _ k_537) (fun _ h9 => h9) rfl d_Mo_invoice_281 ?_
                          refine lv_iload_n hx hb d_Mo_invoice_284 rfl (lv_at hl 4 rfl) ?_
                          refine lv_dup2_11 hx hb d_Mo_invoice_285 rfl rfl ?_
                          refine ra_iald (n := 300) (j := j) (f := AI 11) hx hb hK hP 11 10 rfl rfl (by omega) (by decide) d_Mo_invoice_286 ?_
                          refine lv_iconst (v := 1) hx hb d_Mo_invoice_287 (by decide) ?_
                          refine lv_iadd hx hb d_Mo_invoice_288 ?_
                          refine ra_iast (n := 300) (j := j) (f := AI 11) hx hb hK hP hD hS 11 10 rfl rfl (by omega) (by decide) d_Mo_invoice_289 (fun H locs hP hD hS => ?_)
                          have hP : va_P (dC, dI) classes (mw ad cA 0 yr nf no nt bd nb fl (va_up AI 11 (va_up (AI 11) j ((AI 11 j) + 1))) AN AB (va_up (va_up AL 3 (va_up (AL 3) ((AN 4 j)) ((AL 3 ((AN 4 j))) + (((c0.toInt64) * ((AI 20 (10 * k + r)).toInt64)) / ((AI 21 (10 * k + r)).toInt64))))) 10 (va_up (AL 10) j ((((c0.toInt64) * ((AI 20 (10 * k + r)).toInt64)) / ((AI 21 (10 * k + r)).toInt64)) - ((AI 5 j).toInt64))))) H := hP
                          have hD : va_D A (mw ad cA 0 yr nf no nt bd nb fl (va_up AI 11 (va_up (AI 11) j ((AI 11 j) + 1))) AN AB (va_up (va_up AL 3 (va_up (AL 3) ((AN 4 j)) ((AL 3 ((AN 4 j))) + (((c0.toInt64) * ((AI 20 (10 * k + r)).toInt64)) / ((AI 21 (10 * k + r)).toInt64))))) 10 (va_up (AL 10) j ((((c0.toInt64) * ((AI 20 (10 * k + r)).toInt64)) / ((AI 21 (10 * k + r)).toInt64)) - ((AI 5 j).toInt64))))) := hD
                          refine lv_aload_n hx hb d_Mo_invoice_290 rfl (lv_at hl 3 rfl) ?_
                          refine va_get (D := (dC, dI)) (ci := 7) (v := .ref (ad 12)) (C := R_Mo) (T := F_Mo) (N := 31) hx hb hG iG_Mo hown hK hP 0 rfl rfl 15 (by decide) (hG _ k_538) (fun _ h9 => h9) rfl d_Mo_invoice_291 ?_
                          refine lv_iload_n hx hb d_Mo_invoice_294 rfl (lv_at hl 4 rfl) ?_
                          refine lv_iload hx hb d_Mo_invoice_295 (lv_at hl 7 rfl) ?_
                          refine lv_bipush (v := 30) hx hb d_Mo_invoice_297 (by decide) ?_
                          refine lv_idiv hx hb d_Mo_invoice_299 (by decide) ?_
                          refine ra_iast (n := 300) (j := j) (f := AI 12) hx hb hK hP hD hS 12 11 rfl rfl (by omega) (by decide) d_Mo_invoice_300 (fun H locs hP hD hS => ?_)
                          have hP : va_P (dC, dI) classes (mw ad cA 0 yr nf no nt bd nb fl (va_up (va_up AI 11 (va_up (AI 11) j ((AI 11 j) + 1))) 12 (va_up (AI 12) j (on / 30))) AN AB (va_up (va_up AL 3 (va_up (AL 3) ((AN 4 j)) ((AL 3 ((AN 4 j))) + (((c0.toInt64) * ((AI 20 (10 * k + r)).toInt64)) / ((AI 21 (10 * k + r)).toInt64))))) 10 (va_up (AL 10) j ((((c0.toInt64) * ((AI 20 (10 * k + r)).toInt64)) / ((AI 21 (10 * k + r)).toInt64)) - ((AI 5 j).toInt64))))) H := hP
                          have hD : va_D A (mw ad cA 0 yr nf no nt bd nb fl (va_up (va_up AI 11 (va_up (AI 11) j ((AI 11 j) + 1))) 12 (va_up (AI 12) j (on / 30))) AN AB (va_up (va_up AL 3 (va_up (AL 3) ((AN 4 j)) ((AL 3 ((AN 4 j))) + (((c0.toInt64) * ((AI 20 (10 * k + r)).toInt64)) / ((AI 21 (10 * k + r)).toInt64))))) 10 (va_up (AL 10) j ((((c0.toInt64) * ((AI 20 (10 * k + r)).toInt64)) / ((AI 21 (10 * k + r)).toInt64)) - ((AI 5 j).toInt64))))) := hD
                          refine lv_aload_n hx hb d_Mo_invoice_301 rfl (lv_at hl 3 rfl) ?_
                          refine va_get (D := (dC, dI)) (ci := 7) (v := .ref (ad 6)) (C := R_Mo) (T := F_Mo) (N := 31) hx hb hG iG_Mo hown hK hP 0 rfl rfl 9 (by decide) (hG _ k_532) (fun _ h9 => h9) rfl d_Mo_invoice_302 ?_
                          refine lv_iload_n hx hb d_Mo_invoice_305 rfl (lv_at hl 4 rfl) ?_
                          refine rb_zald (n := 300) (j := j) (g := AB 6) hx hb hK hP 6 5 rfl rfl (by omega) (by decide) d_Mo_invoice_306 ?_
                          refine lb_if_ne (tgt := 317) hx hb d_Mo_invoice_307 (by decide) (fun c_28 => ?_) (fun c_28 => ?_)
                          · exact absurd (c_10.symm.trans c_28) (by decide)
                          · refine lv_aload_n hx hb d_Mo_invoice_310 rfl (lv_at hl 3 rfl) ?_
                            refine va_get (D := (dC, dI)) (ci := 7) (v := .ref (ad 7)) (C := R_Mo) (T := F_Mo) (N := 31) hx hb hG iG_Mo hown hK hP 0 rfl rfl 10 (by decide) (hG _ k_533) (fun _ h9 => h9) rfl d_Mo_invoice_311 ?_
                            refine lv_iload_n hx hb d_Mo_invoice_314 rfl (lv_at hl 4 rfl) ?_
                            refine lv_iconst (v := 2) hx hb d_Mo_invoice_315 (by decide) ?_
                            refine ra_iast (n := 300) (j := j) (f := AI 7) hx hb hK hP hD hS 7 6 rfl rfl (by omega) (by decide) d_Mo_invoice_316 (fun H locs hP hD hS => ?_)
                            have hP : va_P (dC, dI) classes (mw ad cA 0 yr nf no nt bd nb fl (va_up (va_up (va_up AI 11 (va_up (AI 11) j ((AI 11 j) + 1))) 12 (va_up (AI 12) j (on / 30))) 7 (va_up (AI 7) j 2)) AN AB (va_up (va_up AL 3 (va_up (AL 3) ((AN 4 j)) ((AL 3 ((AN 4 j))) + (((c0.toInt64) * ((AI 20 (10 * k + r)).toInt64)) / ((AI 21 (10 * k + r)).toInt64))))) 10 (va_up (AL 10) j ((((c0.toInt64) * ((AI 20 (10 * k + r)).toInt64)) / ((AI 21 (10 * k + r)).toInt64)) - ((AI 5 j).toInt64))))) H := hP
                            have hD : va_D A (mw ad cA 0 yr nf no nt bd nb fl (va_up (va_up (va_up AI 11 (va_up (AI 11) j ((AI 11 j) + 1))) 12 (va_up (AI 12) j (on / 30))) 7 (va_up (AI 7) j 2)) AN AB (va_up (va_up AL 3 (va_up (AL 3) ((AN 4 j)) ((AL 3 ((AN 4 j))) + (((c0.toInt64) * ((AI 20 (10 * k + r)).toInt64)) / ((AI 21 (10 * k + r)).toInt64))))) 10 (va_up (AL 10) j ((((c0.toInt64) * ((AI 20 (10 * k + r)).toInt64)) / ((AI 21 (10 * k + r)).toInt64)) - ((AI 5 j).toInt64))))) := hD
                            refine lv_lload hx hb d_Mo_invoice_317 (lv_at hl 1 rfl) ?_
                            exact W.lret (v := (((c0.toInt64) * ((AI 20 (10 * k + r)).toInt64)) / ((AI 21 (10 * k + r)).toInt64))) hx hb hr (fun t ht hW => ⟨⟨_, (0, yr, nf, no, nt, bd, nb, fl, va_up (va_up (va_up AI 11 (va_up (AI 11) j ((AI 11 j) + 1))) 12 (va_up (AI 12) j (on / 30))) 7 (va_up (AI 7) j 2), AN, AB, va_up (va_up AL 3 (va_up (AL 3) ((AN 4 j)) ((AL 3 ((AN 4 j))) + (((c0.toInt64) * ((AI 20 (10 * k + r)).toInt64)) / ((AI 21 (10 * k + r)).toInt64))))) 10 (va_up (AL 10) j ((((c0.toInt64) * ((AI 20 (10 * k + r)).toInt64)) / ((AI 21 (10 * k + r)).toInt64)) - ((AI 5 j).toInt64)))), rfl, (by simp [m_invoice, m_house, ixn, bI, ej, ek, c_2, c_2n, c_4, c_6, c_8, c_9, c_10, hro, c_24, c_27] <;> (repeat' apply And.intro) <;> rfl), by rw [ht]; exact hP, va_K.moved hW.alike hK, hD⟩, hS.F ht⟩) hS.2.2 d_Mo_invoice_319
                        · refine lv_ldc2 (own := R_Mo) (v := (-4)) hx hb hown (hG _ k_684) d_Mo_invoice_244 ?_
                          exact W.lret (v := (-4)) hx hb hr (fun t ht hW => ⟨⟨_, (0, yr, nf, no, nt, bd, nb, fl, AI, AN, AB, AL), rfl, (by simp [m_invoice, m_house, ixn, bI, ej, ek, c_2, c_2n, c_4, c_6, c_8, c_9, c_10, hro, c_24, c_27] <;> (repeat' apply And.intro) <;> rfl), by rw [ht]; exact hP, va_K.moved hW.alike hK, hD⟩, hS.F ht⟩) hS.2.2 d_Mo_invoice_247
                      · exact absurd (c_10.symm.trans c_25) (by decide)
                    · refine lv_ldc2 (own := R_Mo) (v := (-5)) hx hb hown (hG _ k_683) d_Mo_invoice_204 ?_
                      exact W.lret (v := (-5)) hx hb hr (fun t ht hW => ⟨⟨_, (0, yr, nf, no, nt, bd, nb, fl, AI, AN, AB, AL), rfl, (by simp [m_invoice, m_house, ixn, bI, ej, ek, c_2, c_2n, c_4, c_6, c_8, c_9, c_10, hro, c_24] <;> (repeat' apply And.intro) <;> rfl), by rw [ht]; exact hP, va_K.moved hW.alike hK, hD⟩, hS.F ht⟩) hS.2.2 d_Mo_invoice_207
                  · exact absurd (nI_pos' (by omega)) c_22
                · exact absurd (nI_pos' (by omega)) c_21
            · refine lv_aload_n hx hb d_Mo_invoice_85 rfl (lv_at hl 0 rfl) ?_
              refine va_get (D := (dC, dI)) (ci := 7) (v := .ref (ad 12)) (C := R_Mo) (T := F_Mo) (N := 31) hx hb hG iG_Mo hown hK hP 0 rfl rfl 15 (by decide) (hG _ k_538) (fun _ h9 => h9) rfl d_Mo_invoice_86 ?_
              refine lv_iload_n hx hb d_Mo_invoice_89 rfl (lv_at hl 1 rfl) ?_
              refine ra_iald (n := 300) (j := j) (f := AI 12) hx hb hK hP 12 11 rfl rfl (by omega) (by decide) d_Mo_invoice_90 ?_
              refine lv_iload hx hb d_Mo_invoice_91 (lv_at hl 4 rfl) ?_
              refine lv_bipush (v := 30) hx hb d_Mo_invoice_93 (by decide) ?_
              refine lv_idiv hx hb d_Mo_invoice_95 (by decide) ?_
              refine lv_icmp_lt (tgt := 103) hx hb d_Mo_invoice_96 (by decide) (fun c_29 => ?_) (fun c_29 => ?_)
              · rw [← Int32.not_le] at c_29
                refine lv_aload_n hx hb d_Mo_invoice_103 rfl (lv_at hl 0 rfl) ?_
                refine lv_iload_n hx hb d_Mo_invoice_104 rfl (lv_at hl 3 rfl) ?_
                refine lv_iload hx hb d_Mo_invoice_105 (lv_at hl 4 rfl) ?_
                refine rd_calli (va_runV (As := [.int (nI k), .int on]) (rest := []) ⟨hx, hb, hml, hown, hts⟩ (c_Mo_rowOn l dC dI ad cA 0 yr nf no nt bd nb fl AI AN AB AL k on (by omega) (by omega)) (cwV 2 hts (gd_V k_677 k_679 k_11 k_17 k_680) rfl rfl rfl (by decide +kernel) ⟨Nat.le_of_ble_eq_true rfl, Nat.le_of_ble_eq_true rfl⟩) (rd_preV 0 hK hN hP rfl rfl) rfl rfl hl.1 rfl (lv_room (Nat.le_of_ble_eq_true rfl)) d_Mo_invoice_107 ⟨Nat.zero_le _, Nat.zero_le _⟩) (fun r_30 hr_30 => ?_)
                subst hr_30
                rcases hro : m_rowOn AI AN k on with _ | r
                · refine lv_topI (y := (-1)) rfl ?_
                  refine lv_istore (lv' := [(5, .int (-1)), (0, .ref (ad 0)), (1, .int (nI j)), (2, .int c0), (3, .int (nI k)), (4, .int on)]) hx hb d_Mo_invoice_110 hl (by decide) rfl (fun ls hl => ?_)
                  refine lv_iload hx hb d_Mo_invoice_112 (lv_at hl 0 rfl) ?_
                  refine lv_if_ge (tgt := 125) hx hb d_Mo_invoice_114 (by decide) (fun c_31 => ?_) (fun c_31 => ?_)
                  · exact absurd c_31 (by decide)
                  · refine lv_iload_n hx hb d_Mo_invoice_117 rfl (lv_at hl 4 rfl) ?_
                    refine lv_if_le (tgt := 125) hx hb d_Mo_invoice_118 (by decide) (fun c_32 => ?_) (fun c_32 => ?_)
                    · rw [← Int32.not_lt] at c_32
                      refine lv_iload hx hb d_Mo_invoice_125 (lv_at hl 0 rfl) ?_
                      refine lv_if_ge (tgt := 135) hx hb d_Mo_invoice_127 (by decide) (fun c_33 => ?_) (fun c_33 => ?_)
                      · exact absurd c_33 (by decide)
                      · refine lv_iload_n hx hb d_Mo_invoice_130 rfl (lv_at hl 3 rfl) ?_
                        refine lv_i2l hx hb d_Mo_invoice_131 rfl ?_
                        refine lv_goto (tgt := 155) hx hb d_Mo_invoice_132 (by decide) ?_
                        refine lv_lstore (lv' := [(6, .long (c0.toInt64)), (5, .int (-1)), (0, .ref (ad 0)), (1, .int (nI j)), (2, .int c0), (3, .int (nI k)), (4, .int on)]) hx hb d_Mo_invoice_155 hl (by decide) rfl (fun ls hl => ?_)
                        refine lv_aload_n hx hb d_Mo_invoice_157 rfl (lv_at hl 2 rfl) ?_
                        refine va_get (D := (dC, dI)) (ci := 7) (v := .ref (ad 5)) (C := R_Mo) (T := F_Mo) (N := 31) hx hb hG iG_Mo hown hK hP 0 rfl rfl 8 (by decide) (hG _ k_531) (fun _ h9 => h9) rfl d_Mo_invoice_158 ?_
                        refine lv_iload_n hx hb d_Mo_invoice_161 rfl (lv_at hl 3 rfl) ?_
                        refine ra_iald (n := 300) (j := j) (f := AI 5) hx hb hK hP 5 4 rfl rfl (by omega) (by decide) d_Mo_invoice_162 ?_
                        refine lv_i2l hx hb d_Mo_invoice_163 rfl ?_
                        refine lv_aload_n hx hb d_Mo_invoice_164 rfl (lv_at hl 2 rfl) ?_
                        refine va_get (D := (dC, dI)) (ci := 7) (v := .int bd) (C := R_Mo) (T := F_Mo) (N := 31) hx hb hG iG_Mo hown hK hP 0 rfl rfl 22 (by decide) (hG _ k_545) (fun _ h9 => h9) rfl d_Mo_invoice_165 ?_
                        refine lv_i2l hx hb d_Mo_invoice_168 rfl ?_
                        refine lv_lmul hx hb d_Mo_invoice_169 ?_
                        refine lv_ldc2 (own := R_Mo) (v := 1000) hx hb hown (hG _ k_682) d_Mo_invoice_170 ?_
                        refine lv_ldiv hx hb d_Mo_invoice_173 (by decide) ?_
                        refine lv_lstore (lv' := [(8, .long ((((AI 5 j).toInt64) * (bd.toInt64)) / 1000)), (6, .long (c0.toInt64)), (5, .int (-1)), (0, .ref (ad 0)), (1, .int (nI j)), (2, .int c0), (3, .int (nI k)), (4, .int on)]) hx hb d_Mo_invoice_174 hl (by decide) rfl (fun ls hl => ?_)
                        refine lv_lload hx hb d_Mo_invoice_176 (lv_at hl 1 rfl) ?_
                        refine lv_aload_n hx hb d_Mo_invoice_178 rfl (lv_at hl 3 rfl) ?_
                        refine va_get (D := (dC, dI)) (ci := 7) (v := .ref (ad 5)) (C := R_Mo) (T := F_Mo) (N := 31) hx hb hG iG_Mo hown hK hP 0 rfl rfl 8 (by decide) (hG _ k_531) (fun _ h9 => h9) rfl d_Mo_invoice_179 ?_
                        refine lv_iload_n hx hb d_Mo_invoice_182 rfl (lv_at hl 4 rfl) ?_
                        refine ra_iald (n := 300) (j := j) (f := AI 5) hx hb hK hP 5 4 rfl rfl (by omega) (by decide) d_Mo_invoice_183 ?_
                        refine lv_i2l hx hb d_Mo_invoice_184 rfl ?_
                        refine lv_lload hx hb d_Mo_invoice_185 (lv_at hl 0 rfl) ?_
                        refine lv_lsub hx hb d_Mo_invoice_187 ?_
                        refine lv_aload_n hx hb d_Mo_invoice_188 rfl (lv_at hl 3 rfl) ?_
                        refine va_get (D := (dC, dI)) (ci := 7) (v := .ref (ad 5)) (C := R_Mo) (T := F_Mo) (N := 31) hx hb hG iG_Mo hown hK hP 0 rfl rfl 8 (by decide) (hG _ k_531) (fun _ h9 => h9) rfl d_Mo_invoice_189 ?_
                        refine lv_iload_n hx hb d_Mo_invoice_192 rfl (lv_at hl 4 rfl) ?_
                        refine ra_iald (n := 300) (j := j) (f := AI 5) hx hb hK hP 5 4 rfl rfl (by omega) (by decide) d_Mo_invoice_193 ?_
                        refine lv_i2l hx hb d_Mo_invoice_194 rfl ?_
                        refine lv_lload hx hb d_Mo_invoice_195 (lv_at hl 0 rfl) ?_
                        refine lv_ladd hx hb d_Mo_invoice_197 ?_
                        refine rd_calli (va_runS (As := [.long (c0.toInt64), .long (((AI 5 j).toInt64) - ((((AI 5 j).toInt64) * (bd.toInt64)) / 1000)), .long (((AI 5 j).toInt64) + ((((AI 5 j).toInt64) * (bd.toInt64)) / 1000))]) (rest := []) ⟨hx, hb, hml, hown, hts⟩ (c_Mo_in l dC dI (mtys cA) (mw ad cA 0 yr nf no nt bd nb fl AI AN AB AL) (c0.toInt64) (((AI 5 j).toInt64) - ((((AI 5 j).toInt64) * (bd.toInt64)) / 1000)) (((AI 5 j).toInt64) + ((((AI 5 j).toInt64) * (bd.toInt64)) / 1000))) (cwS 3 hts (gd_S k_629 k_630 k_17 k_631) rfl rfl rfl (by decide +kernel) ⟨Nat.le_of_ble_eq_true rfl, Nat.le_of_ble_eq_true rfl⟩) (rd_preS hK hN hP) rfl rfl hl.1 rfl (lv_room (Nat.le_of_ble_eq_true rfl)) d_Mo_invoice_198 ⟨Nat.zero_le _, Nat.zero_le _⟩) (fun r_34 hr_34 => ?_)
                        subst hr_34
                        refine lb_if_ne (tgt := 208) hx hb d_Mo_invoice_201 (by decide) (fun c_35 => ?_) (fun c_35 => ?_)
                        · refine lv_aload_n hx hb d_Mo_invoice_208 rfl (lv_at hl 3 rfl) ?_
                          refine lv_aload_n hx hb d_Mo_invoice_209 rfl (lv_at hl 3 rfl) ?_
                          refine va_get (D := (dC, dI)) (ci := 7) (v := .ref (ad 4)) (C := R_Mo) (T := F_Mo) (N := 31) hx hb hG iG_Mo hown hK hP 0 rfl rfl 7 (by decide) (hG _ k_530) (fun _ h9 => h9) rfl d_Mo_invoice_210 ?_
                          refine lv_iload_n hx hb d_Mo_invoice_213 rfl (lv_at hl 4 rfl) ?_
                          refine rn_iald (n := 300) (j := j) (g := AN 4) hx hb hK hP 4 3 rfl rfl (by omega) (by decide) d_Mo_invoice_214 ?_
                          refine lv_lconst (v := 0) hx hb d_Mo_invoice_215 (by decide) ?_
                          refine lv_lload hx hb d_Mo_invoice_216 (lv_at hl 1 rfl) ?_
                          refine lv_aload_n hx hb d_Mo_invoice_218 rfl (lv_at hl 3 rfl) ?_
                          refine va_get (D := (dC, dI)) (ci := 7) (v := .ref (ad 6)) (C := R_Mo) (T := F_Mo) (N := 31) hx hb hG iG_Mo hown hK hP 0 rfl rfl 9 (by decide) (hG _ k_532) (fun _ h9 => h9) rfl d_Mo_invoice_219 ?_
                          refine lv_iload_n hx hb d_Mo_invoice_222 rfl (lv_at hl 4 rfl) ?_
                          refine rb_zald (n := 300) (j := j) (g := AB 6) hx hb hK hP 6 5 rfl rfl (by omega) (by decide) d_Mo_invoice_223 ?_
                          refine lb_if_eq (tgt := 231) hx hb d_Mo_invoice_224 (by decide) (fun c_36 => ?_) (fun c_36 => ?_)
                          · exact absurd (c_10.symm.trans c_36) (by decide)
                          · refine lv_lconst (v := 0) hx hb d_Mo_invoice_227 (by decide) ?_
                            refine lv_goto (tgt := 238) hx hb d_Mo_invoice_228 (by decide) ?_
                            refine rd_calli (va_runV (As := [.int (nI ((AN 4 j))), .long 0, .long (c0.toInt64), .long 0]) (rest := []) ⟨hx, hb, hml, hown, hts⟩ (c_Mo_fits l dC dI ad cA 0 yr nf no nt bd nb fl AI AN AB AL ((AN 4 j)) 0 (c0.toInt64) 0 hno (by omega)) (cwV 4 hts (gd_V k_641 k_643 k_8 k_17 k_644) rfl rfl rfl (by decide +kernel) ⟨Nat.le_of_ble_eq_true rfl, Nat.le_of_ble_eq_true rfl⟩) (rd_preV 0 hK hN hP rfl rfl) rfl rfl hl.1 rfl (lv_room (Nat.le_of_ble_eq_true rfl)) d_Mo_invoice_238 ⟨Nat.zero_le _, Nat.zero_le _⟩) (fun r_37 hr_37 => ?_)
                            subst hr_37
                            refine lb_if_ne (tgt := 248) hx hb d_Mo_invoice_241 (by decide) (fun c_38 => ?_) (fun c_38 => ?_)
                            · refine lv_aload_n hx hb d_Mo_invoice_248 rfl (lv_at hl 3 rfl) ?_
                              refine va_get (D := (dC, dI)) (ci := 7) (v := .ref (ad 3)) (C := R_Mo) (T := F_Mo) (N := 31) hx hb hG iG_Mo hown hK hP 0 rfl rfl 5 (by decide) (hG _ k_528) (fun _ h9 => h9) rfl d_Mo_invoice_249 ?_
                              refine lv_aload_n hx hb d_Mo_invoice_252 rfl (lv_at hl 3 rfl) ?_
                              refine va_get (D := (dC, dI)) (ci := 7) (v := .ref (ad 4)) (C := R_Mo) (T := F_Mo) (N := 31) hx hb hG iG_Mo hown hK hP 0 rfl rfl 7 (by decide) (hG _ k_530) (fun _ h9 => h9) rfl d_Mo_invoice_253 ?_
                              refine lv_iload_n hx hb d_Mo_invoice_256 rfl (lv_at hl 4 rfl) ?_
                              refine rn_iald (n := 300) (j := j) (g := AN 4) hx hb hK hP 4 3 rfl rfl (by omega) (by decide) d_Mo_invoice_257 ?_
                              refine lv_dup2_11 hx hb d_Mo_invoice_258 rfl rfl ?_
                              refine ra_lald (n := 30) (j := ((AN 4 j))) (f := AL 3) hx hb hK hP 3 2 rfl rfl (by omega) (by decide) d_Mo_invoice_259 ?_
                              refine lv_lload hx hb d_Mo_invoice_260 (lv_at hl 1 rfl) ?_
                              refine lv_ladd hx hb d_Mo_invoice_262 ?_
                              refine ra_last (n := 30) (j := ((AN 4 j))) (f := AL 3) hx hb hK hP hD hS 3 2 rfl rfl (by omega) (by decide) d_Mo_invoice_263 (fun H locs hP hD hS => ?_)
                              have hP : va_P (dC, dI) classes (mw ad cA 0 yr nf no nt bd nb fl AI AN AB (va_up AL 3 (va_up (AL 3) ((AN 4 j)) ((AL 3 ((AN 4 j))) + (c0.toInt64))))) H := hP
                              have hD : va_D A (mw ad cA 0 yr nf no nt bd nb fl AI AN AB (va_up AL 3 (va_up (AL 3) ((AN 4 j)) ((AL 3 ((AN 4 j))) + (c0.toInt64))))) := hD
                              refine lv_aload_n hx hb d_Mo_invoice_264 rfl (lv_at hl 3 rfl) ?_
                              refine va_get (D := (dC, dI)) (ci := 7) (v := .ref (ad 10)) (C := R_Mo) (T := F_Mo) (N := 31) hx hb hG iG_Mo hown hK hP 0 rfl rfl 13 (by decide) (hG _ k_536) (fun _ h9 => h9) rfl d_Mo_invoice_265 ?_
                              refine lv_iload_n hx hb d_Mo_invoice_268 rfl (lv_at hl 4 rfl) ?_
                              refine lv_lload hx hb d_Mo_invoice_269 (lv_at hl 1 rfl) ?_
                              refine lv_aload_n hx hb d_Mo_invoice_271 rfl (lv_at hl 3 rfl) ?_
                              refine va_get (D := (dC, dI)) (ci := 7) (v := .ref (ad 5)) (C := R_Mo) (T := F_Mo) (N := 31) hx hb hG iG_Mo hown hK hP 0 rfl rfl 8 (by decide) (hG _ k_531) (fun _ h9 => h9) rfl d_Mo_invoice_272 ?_
                              refine lv_iload_n hx hb d_Mo_invoice_275 rfl (lv_at hl 4 rfl) ?_
                              refine ra_iald (n := 300) (j := j) (f := AI 5) hx hb hK hP 5 4 rfl rfl (by omega) (by decide) d_Mo_invoice_276 ?_
                              refine lv_i2l hx hb d_Mo_invoice_277 rfl ?_
                              refine lv_lsub hx hb d_Mo_invoice_278 ?_
                              refine ra_last (n := 300) (j := j) (f := AL 10) hx hb hK hP hD hS 10 9 rfl rfl (by omega) (by decide) d_Mo_invoice_279 (fun H locs hP hD hS => ?_)
                              have hP : va_P (dC, dI) classes (mw ad cA 0 yr nf no nt bd nb fl AI AN AB (va_up (va_up AL 3 (va_up (AL 3) ((AN 4 j)) ((AL 3 ((AN 4 j))) + (c0.toInt64)))) 10 (va_up (AL 10) j ((c0.toInt64) - ((AI 5 j).toInt64))))) H := hP
                              have hD : va_D A (mw ad cA 0 yr nf no nt bd nb fl AI AN AB (va_up (va_up AL 3 (va_up (AL 3) ((AN 4 j)) ((AL 3 ((AN 4 j))) + (c0.toInt64)))) 10 (va_up (AL 10) j ((c0.toInt64) - ((AI 5 j).toInt64))))) := hD
                              refine lv_aload_n hx hb d_Mo_invoice_280 rfl (lv_at hl 3 rfl) ?_
                              refine va_get (D := (dC, dI)) (ci := 7) (v := .ref (ad 11)) (C := R_Mo) (T := F_Mo) (N := 31) hx hb hG iG_Mo hown hK hP 0 rfl rfl 14 (by decide) (hG _ k_537) (fun _ h9 => h9) rfl d_Mo_invoice_281 ?_
                              refine lv_iload_n hx hb d_Mo_invoice_284 rfl (lv_at hl 4 rfl) ?_
                              refine lv_dup2_11 hx hb d_Mo_invoice_285 rfl rfl ?_
                              refine ra_iald (n := 300) (j := j) (f := AI 11) hx hb hK hP 11 10 rfl rfl (by omega) (by decide) d_Mo_invoice_286 ?_
                              refine lv_iconst (v := 1) hx hb d_Mo_invoice_287 (by decide) ?_
                              refine lv_iadd hx hb d_Mo_invoice_288 ?_
                              refine ra_iast (n := 300) (j := j) (f := AI 11) hx hb hK hP hD hS 11 10 rfl rfl (by omega) (by decide) d_Mo_invoice_289 (fun H locs hP hD hS => ?_)
                              have hP : va_P (dC, dI) classes (mw ad cA 0 yr nf no nt bd nb fl (va_up AI 11 (va_up (AI 11) j ((AI 11 j) + 1))) AN AB (va_up (va_up AL 3 (va_up (AL 3) ((AN 4 j)) ((AL 3 ((AN 4 j))) + (c0.toInt64)))) 10 (va_up (AL 10) j ((c0.toInt64) - ((AI 5 j).toInt64))))) H := hP
                              have hD : va_D A (mw ad cA 0 yr nf no nt bd nb fl (va_up AI 11 (va_up (AI 11) j ((AI 11 j) + 1))) AN AB (va_up (va_up AL 3 (va_up (AL 3) ((AN 4 j)) ((AL 3 ((AN 4 j))) + (c0.toInt64)))) 10 (va_up (AL 10) j ((c0.toInt64) - ((AI 5 j).toInt64))))) := hD
                              refine lv_aload_n hx hb d_Mo_invoice_290 rfl (lv_at hl 3 rfl) ?_
                              refine va_get (D := (dC, dI)) (ci := 7) (v := .ref (ad 12)) (C := R_Mo) (T := F_Mo) (N := 31) hx hb hG iG_Mo hown hK hP 0 rfl rfl 15 (by decide) (hG _ k_538) (fun _ h9 => h9) rfl d_Mo_invoice_291 ?_
                              refine lv_iload_n hx hb d_Mo_invoice_294 rfl (lv_at hl 4 rfl) ?_
                              refine lv_iload hx hb d_Mo_invoice_295 (lv_at hl 7 rfl) ?_
                              refine lv_bipush (v := 30) hx hb d_Mo_invoice_297 (by decide) ?_
                              refine lv_idiv hx hb d_Mo_invoice_299 (by decide) ?_
                              refine ra_iast (n := 300) (j := j) (f := AI 12) hx hb hK hP hD hS 12 11 rfl rfl (by omega) (by decide) d_Mo_invoice_300 (fun H locs hP hD hS => ?_)
                              have hP : va_P (dC, dI) classes (mw ad cA 0 yr nf no nt bd nb fl (va_up (va_up AI 11 (va_up (AI 11) j ((AI 11 j) + 1))) 12 (va_up (AI 12) j (on / 30))) AN AB (va_up (va_up AL 3 (va_up (AL 3) ((AN 4 j)) ((AL 3 ((AN 4 j))) + (c0.toInt64)))) 10 (va_up (AL 10) j ((c0.toInt64) - ((AI 5 j).toInt64))))) H := hP
                              have hD : va_D A (mw ad cA 0 yr nf no nt bd nb fl (va_up (va_up AI 11 (va_up (AI 11) j ((AI 11 j) + 1))) 12 (va_up (AI 12) j (on / 30))) AN AB (va_up (va_up AL 3 (va_up (AL 3) ((AN 4 j)) ((AL 3 ((AN 4 j))) + (c0.toInt64)))) 10 (va_up (AL 10) j ((c0.toInt64) - ((AI 5 j).toInt64))))) := hD
                              refine lv_aload_n hx hb d_Mo_invoice_301 rfl (lv_at hl 3 rfl) ?_
                              refine va_get (D := (dC, dI)) (ci := 7) (v := .ref (ad 6)) (C := R_Mo) (T := F_Mo) (N := 31) hx hb hG iG_Mo hown hK hP 0 rfl rfl 9 (by decide) (hG _ k_532) (fun _ h9 => h9) rfl d_Mo_invoice_302 ?_
                              refine lv_iload_n hx hb d_Mo_invoice_305 rfl (lv_at hl 4 rfl) ?_
                              refine rb_zald (n := 300) (j := j) (g := AB 6) hx hb hK hP 6 5 rfl rfl (by omega) (by decide) d_Mo_invoice_306 ?_
                              refine lb_if_ne (tgt := 317) hx hb d_Mo_invoice_307 (by decide) (fun c_39 => ?_) (fun c_39 => ?_)
                              · refine lv_lload hx hb d_Mo_invoice_317 (lv_at hl 1 rfl) ?_
                                exact W.lret (v := (c0.toInt64)) hx hb hr (fun t ht hW => ⟨⟨_, (0, yr, nf, no, nt, bd, nb, fl, va_up (va_up AI 11 (va_up (AI 11) j ((AI 11 j) + 1))) 12 (va_up (AI 12) j (on / 30)), AN, AB, va_up (va_up AL 3 (va_up (AL 3) ((AN 4 j)) ((AL 3 ((AN 4 j))) + (c0.toInt64)))) 10 (va_up (AL 10) j ((c0.toInt64) - ((AI 5 j).toInt64)))), rfl, (by simp [m_invoice, m_house, ixn, bI, ej, ek, c_2, c_2n, c_4, c_6, c_8, c_9, c_10, c_29, hro, c_32, c_35, c_38] <;> (repeat' apply And.intro) <;> rfl), by rw [ht]; exact hP, va_K.moved hW.alike hK, hD⟩, hS.F ht⟩) hS.2.2 d_Mo_invoice_319
                              · exact absurd (c_10.symm.trans c_39) (by decide)
                            · refine lv_ldc2 (own := R_Mo) (v := (-4)) hx hb hown (hG _ k_684) d_Mo_invoice_244 ?_
                              exact W.lret (v := (-4)) hx hb hr (fun t ht hW => ⟨⟨_, (0, yr, nf, no, nt, bd, nb, fl, AI, AN, AB, AL), rfl, (by simp [m_invoice, m_house, ixn, bI, ej, ek, c_2, c_2n, c_4, c_6, c_8, c_9, c_10, c_29, hro, c_32, c_35, c_38] <;> (repeat' apply And.intro) <;> rfl), by rw [ht]; exact hP, va_K.moved hW.alike hK, hD⟩, hS.F ht⟩) hS.2.2 d_Mo_invoice_247
                        · refine lv_ldc2 (own := R_Mo) (v := (-5)) hx hb hown (hG _ k_683) d_Mo_invoice_204 ?_
                          exact W.lret (v := (-5)) hx hb hr (fun t ht hW => ⟨⟨_, (0, yr, nf, no, nt, bd, nb, fl, AI, AN, AB, AL), rfl, (by simp [m_invoice, m_house, ixn, bI, ej, ek, c_2, c_2n, c_4, c_6, c_8, c_9, c_10, c_29, hro, c_32, c_35] <;> (repeat' apply And.intro) <;> rfl), by rw [ht]; exact hP, va_K.moved hW.alike hK, hD⟩, hS.F ht⟩) hS.2.2 d_Mo_invoice_207
                    · rw [Int32.not_le] at c_32
                      refine lv_ldc2 (own := R_Mo) (v := (-6)) hx hb hown (hG _ k_681) d_Mo_invoice_121 ?_
                      exact W.lret (v := (-6)) hx hb hr (fun t ht hW => ⟨⟨_, (0, yr, nf, no, nt, bd, nb, fl, AI, AN, AB, AL), rfl, (by simp [m_invoice, m_house, ixn, bI, ej, ek, c_2, c_2n, c_4, c_6, c_8, c_9, c_10, c_29, hro, c_32] <;> (repeat' apply And.intro) <;> rfl), by rw [ht]; exact hP, va_K.moved hW.alike hK, hD⟩, hS.F ht⟩) hS.2.2 d_Mo_invoice_124
                · have hr10 : r < AN 18 k := lst_lt hro
                  refine lv_topI (y := nI (10 * k + r)) rfl ?_
                  refine lv_istore (lv' := [(5, .int (nI (10 * k + r))), (0, .ref (ad 0)), (1, .int (nI j)), (2, .int c0), (3, .int (nI k)), (4, .int on)]) hx hb d_Mo_invoice_110 hl (by decide) rfl (fun ls hl => ?_)
                  refine lv_iload hx hb d_Mo_invoice_112 (lv_at hl 0 rfl) ?_
                  refine lv_if_ge (tgt := 125) hx hb d_Mo_invoice_114 (by decide) (fun c_40 => ?_) (fun c_40 => ?_)
                  · refine lv_iload hx hb d_Mo_invoice_125 (lv_at hl 0 rfl) ?_
                    refine lv_if_ge (tgt := 135) hx hb d_Mo_invoice_127 (by decide) (fun c_41 => ?_) (fun c_41 => ?_)
                    · refine lv_iload_n hx hb d_Mo_invoice_135 rfl (lv_at hl 3 rfl) ?_
                      refine lv_i2l hx hb d_Mo_invoice_136 rfl ?_
                      refine lv_aload_n hx hb d_Mo_invoice_137 rfl (lv_at hl 1 rfl) ?_
                      refine va_get (D := (dC, dI)) (ci := 7) (v := .ref (ad 20)) (C := R_Mo) (T := F_Mo) (N := 31) hx hb hG iG_Mo hown hK hP 0 rfl rfl 25 (by decide) (hG _ k_548) (fun _ h9 => h9) rfl d_Mo_invoice_138 ?_
                      refine lv_iload hx hb d_Mo_invoice_141 (lv_at hl 0 rfl) ?_
                      refine ra_iald (n := 100) (j := (10 * k + r)) (f := AI 20) hx hb hK hP 20 19 rfl rfl (by omega) (by decide) d_Mo_invoice_143 ?_
                      refine lv_i2l hx hb d_Mo_invoice_144 rfl ?_
                      refine lv_lmul hx hb d_Mo_invoice_145 ?_
                      refine lv_aload_n hx hb d_Mo_invoice_146 rfl (lv_at hl 1 rfl) ?_
                      refine va_get (D := (dC, dI)) (ci := 7) (v := .ref (ad 21)) (C := R_Mo) (T := F_Mo) (N := 31) hx hb hG iG_Mo hown hK hP 0 rfl rfl 26 (by decide) (hG _ k_549) (fun _ h9 => h9) rfl d_Mo_invoice_147 ?_
                      refine lv_iload hx hb d_Mo_invoice_150 (lv_at hl 0 rfl) ?_
                      refine ra_iald (n := 100) (j := (10 * k + r)) (f := AI 21) hx hb hK hP 21 20 rfl rfl (by omega) (by decide) d_Mo_invoice_152 ?_
                      refine lv_i2l hx hb d_Mo_invoice_153 rfl ?_
                      refine lv_ldiv hx hb d_Mo_invoice_154 (ne0_64 (hdn k r hk hr10)) ?_
                      refine lv_lstore (lv' := [(6, .long (((c0.toInt64) * ((AI 20 (10 * k + r)).toInt64)) / ((AI 21 (10 * k + r)).toInt64))), (5, .int (nI (10 * k + r))), (0, .ref (ad 0)), (1, .int (nI j)), (2, .int c0), (3, .int (nI k)), (4, .int on)]) hx hb d_Mo_invoice_155 hl (by decide) rfl (fun ls hl => ?_)
                      refine lv_aload_n hx hb d_Mo_invoice_157 rfl (lv_at hl 2 rfl) ?_
                      refine va_get (D := (dC, dI)) (ci := 7) (v := .ref (ad 5)) (C := R_Mo) (T := F_Mo) (N := 31) hx hb hG iG_Mo hown hK hP 0 rfl rfl 8 (by decide) (hG _ k_531) (fun _ h9 => h9) rfl d_Mo_invoice_158 ?_
                      refine lv_iload_n hx hb d_Mo_invoice_161 rfl (lv_at hl 3 rfl) ?_
                      refine ra_iald (n := 300) (j := j) (f := AI 5) hx hb hK hP 5 4 rfl rfl (by omega) (by decide) d_Mo_invoice_162 ?_
                      refine lv_i2l hx hb d_Mo_invoice_163 rfl ?_
                      refine lv_aload_n hx hb d_Mo_invoice_164 rfl (lv_at hl 2 rfl) ?_
                      refine va_get (D := (dC, dI)) (ci := 7) (v := .int bd) (C := R_Mo) (T := F_Mo) (N := 31) hx hb hG iG_Mo hown hK hP 0 rfl rfl 22 (by decide) (hG _ k_545) (fun _ h9 => h9) rfl d_Mo_invoice_165 ?_
                      refine lv_i2l hx hb d_Mo_invoice_168 rfl ?_
                      refine lv_lmul hx hb d_Mo_invoice_169 ?_
                      refine lv_ldc2 (own := R_Mo) (v := 1000) hx hb hown (hG _ k_682) d_Mo_invoice_170 ?_
                      refine lv_ldiv hx hb d_Mo_invoice_173 (by decide) ?_
                      refine lv_lstore (lv' := [(8, .long ((((AI 5 j).toInt64) * (bd.toInt64)) / 1000)), (6, .long (((c0.toInt64) * ((AI 20 (10 * k + r)).toInt64)) / ((AI 21 (10 * k + r)).toInt64))), (5, .int (nI (10 * k + r))), (0, .ref (ad 0)), (1, .int (nI j)), (2, .int c0), (3, .int (nI k)), (4, .int on)]) hx hb d_Mo_invoice_174 hl (by decide) rfl (fun ls hl => ?_)
                      refine lv_lload hx hb d_Mo_invoice_176 (lv_at hl 1 rfl) ?_
                      refine lv_aload_n hx hb d_Mo_invoice_178 rfl (lv_at hl 3 rfl) ?_
                      refine va_get (D := (dC, dI)) (ci := 7) (v := .ref (ad 5)) (C := R_Mo) (T := F_Mo) (N := 31) hx hb hG iG_Mo hown hK hP 0 rfl rfl 8 (by decide) (hG _ k_531) (fun _ h9 => h9) rfl d_Mo_invoice_179 ?_
                      refine lv_iload_n hx hb d_Mo_invoice_182 rfl (lv_at hl 4 rfl) ?_
                      refine ra_iald (n := 300) (j := j) (f := AI 5) hx hb hK hP 5 4 rfl rfl (by omega) (by decide) d_Mo_invoice_183 ?_
                      refine lv_i2l hx hb d_Mo_invoice_184 rfl ?_
                      refine lv_lload hx hb d_Mo_invoice_185 (lv_at hl 0 rfl) ?_
                      refine lv_lsub hx hb d_Mo_invoice_187 ?_
                      refine lv_aload_n hx hb d_Mo_invoice_188 rfl (lv_at hl 3 rfl) ?_
                      refine va_get (D := (dC, dI)) (ci := 7) (v := .ref (ad 5)) (C := R_Mo) (T := F_Mo) (N := 31) hx hb hG iG_Mo hown hK hP 0 rfl rfl 8 (by decide) (hG _ k_531) (fun _ h9 => h9) rfl d_Mo_invoice_189 ?_
                      refine lv_iload_n hx hb d_Mo_invoice_192 rfl (lv_at hl 4 rfl) ?_
                      refine ra_iald (n := 300) (j := j) (f := AI 5) hx hb hK hP 5 4 rfl rfl (by omega) (by decide) d_Mo_invoice_193 ?_
                      refine lv_i2l hx hb d_Mo_invoice_194 rfl ?_
                      refine lv_lload hx hb d_Mo_invoice_195 (lv_at hl 0 rfl) ?_
                      refine lv_ladd hx hb d_Mo_invoice_197 ?_
                      refine rd_calli (va_runS (As := [.long (((c0.toInt64) * ((AI 20 (10 * k + r)).toInt64)) / ((AI 21 (10 * k + r)).toInt64)), .long (((AI 5 j).toInt64) - ((((AI 5 j).toInt64) * (bd.toInt64)) / 1000)), .long (((AI 5 j).toInt64) + ((((AI 5 j).toInt64) * (bd.toInt64)) / 1000))]) (rest := []) ⟨hx, hb, hml, hown, hts⟩ (c_Mo_in l dC dI (mtys cA) (mw ad cA 0 yr nf no nt bd nb fl AI AN AB AL) (((c0.toInt64) * ((AI 20 (10 * k + r)).toInt64)) / ((AI 21 (10 * k + r)).toInt64)) (((AI 5 j).toInt64) - ((((AI 5 j).toInt64) * (bd.toInt64)) / 1000)) (((AI 5 j).toInt64) + ((((AI 5 j).toInt64) * (bd.toInt64)) / 1000))) (cwS 3 hts (gd_S k_629 k_630 k_17 k_631) rfl rfl rfl (by decide +kernel) ⟨Nat.le_of_ble_eq_true rfl, Nat.le_of_ble_eq_true rfl⟩) (rd_preS hK hN hP) rfl rfl hl.1 rfl (lv_room (Nat.le_of_ble_eq_true rfl)) d_Mo_invoice_198 ⟨Nat.zero_le _, Nat.zero_le _⟩) (fun r_42 hr_42 => ?_)
                      subst hr_42
                      refine lb_if_ne (tgt := 208) hx hb d_Mo_invoice_201 (by decide) (fun c_43 => ?_) (fun c_43 => ?_)
                      · refine lv_aload_n hx hb d_Mo_invoice_208 rfl (lv_at hl 3 rfl) ?_
                        refine lv_aload_n hx hb d_Mo_invoice_209 rfl (lv_at hl 3 rfl) ?_
                        refine va_get (D := (dC, dI)) (ci := 7) (v := .ref (ad 4)) (C := R_Mo) (T := F_Mo) (N := 31) hx hb hG iG_Mo hown hK hP 0 rfl rfl 7 (by decide) (hG _ k_530) (fun _ h9 => h9) rfl d_Mo_invoice_210 ?_
                        refine lv_iload_n hx hb d_Mo_invoice_213 rfl (lv_at hl 4 rfl) ?_
                        refine rn_iald (n := 300) (j := j) (g := AN 4) hx hb hK hP 4 3 rfl rfl (by omega) (by decide) d_Mo_invoice_214 ?_
                        refine lv_lconst (v := 0) hx hb d_Mo_invoice_215 (by decide) ?_
                        refine lv_lload hx hb d_Mo_invoice_216 (lv_at hl 1 rfl) ?_
                        refine lv_aload_n hx hb d_Mo_invoice_218 rfl (lv_at hl 3 rfl) ?_
                        refine va_get (D := (dC, dI)) (ci := 7) (v := .ref (ad 6)) (C := R_Mo) (T := F_Mo) (N := 31) hx hb hG iG_Mo hown hK hP 0 rfl rfl 9 (by decide) (hG _ k_532) (fun _ h9 => h9) rfl d_Mo_invoice_219 ?_
                        refine lv_iload_n hx hb d_Mo_invoice_222 rfl (lv_at hl 4 rfl) ?_
                        refine rb_zald (n := 300) (j := j) (g := AB 6) hx hb hK hP 6 5 rfl rfl (by omega) (by decide) d_Mo_invoice_223 ?_
                        refine lb_if_eq (tgt := 231) hx hb d_Mo_invoice_224 (by decide) (fun c_44 => ?_) (fun c_44 => ?_)
                        · exact absurd (c_10.symm.trans c_44) (by decide)
                        · refine lv_lconst (v := 0) hx hb d_Mo_invoice_227 (by decide) ?_
                          refine lv_goto (tgt := 238) hx hb d_Mo_invoice_228 (by decide) ?_
                          refine rd_calli (va_runV (As := [.int (nI ((AN 4 j))), .long 0, .long (((c0.toInt64) * ((AI 20 (10 * k + r)).toInt64)) / ((AI 21 (10 * k + r)).toInt64)), .long 0]) (rest := []) ⟨hx, hb, hml, hown, hts⟩ (c_Mo_fits l dC dI ad cA 0 yr nf no nt bd nb fl AI AN AB AL ((AN 4 j)) 0 (((c0.toInt64) * ((AI 20 (10 * k + r)).toInt64)) / ((AI 21 (10 * k + r)).toInt64)) 0 hno (by omega)) (cwV 4 hts (gd_V k_641 k_643 k_8 k_17 k_644) rfl rfl rfl (by decide +kernel) ⟨Nat.le_of_ble_eq_true rfl, Nat.le_of_ble_eq_true rfl⟩) (rd_preV 0 hK hN hP rfl rfl) rfl rfl hl.1 rfl (lv_room (Nat.le_of_ble_eq_true rfl)) d_Mo_invoice_238 ⟨Nat.zero_le _, Nat.zero_le _⟩) (fun r_45 hr_45 => ?_)
                          subst hr_45
                          refine lb_if_ne (tgt := 248) hx hb d_Mo_invoice_241 (by decide) (fun c_46 => ?_) (fun c_46 => ?_)
                          · refine lv_aload_n hx hb d_Mo_invoice_248 rfl (lv_at hl 3 rfl) ?_
                            refine va_get (D := (dC, dI)) (ci := 7) (v := .ref (ad 3)) (C := R_Mo) (T := F_Mo) (N := 31) hx hb hG iG_Mo hown hK hP 0 rfl rfl 5 (by decide) (hG _ k_528) (fun _ h9 => h9) rfl d_Mo_invoice_249 ?_
                            refine lv_aload_n hx hb d_Mo_invoice_252 rfl (lv_at hl 3 rfl) ?_
                            refine va_get (D := (dC, dI)) (ci := 7) (v := .ref (ad 4)) (C := R_Mo) (T := F_Mo) (N := 31) hx hb hG iG_Mo hown hK hP 0 rfl rfl 7 (by decide) (hG _ k_530) (fun _ h9 => h9) rfl d_Mo_invoice_253 ?_
                            refine lv_iload_n hx hb d_Mo_invoice_256 rfl (lv_at hl 4 rfl) ?_
                            refine rn_iald (n := 300) (j := j) (g := AN 4) hx hb hK hP 4 3 rfl rfl (by omega) (by decide) d_Mo_invoice_257 ?_
                            refine lv_dup2_11 hx hb d_Mo_invoice_258 rfl rfl ?_
                            refine ra_lald (n := 30) (j := ((AN 4 j))) (f := AL 3) hx hb hK hP 3 2 rfl rfl (by omega) (by decide) d_Mo_invoice_259 ?_
                            refine lv_lload hx hb d_Mo_invoice_260 (lv_at hl 1 rfl) ?_
                            refine lv_ladd hx hb d_Mo_invoice_262 ?_
                            refine ra_last (n := 30) (j := ((AN 4 j))) (f := AL 3) hx hb hK hP hD hS 3 2 rfl rfl (by omega) (by decide) d_Mo_invoice_263 (fun H locs hP hD hS => ?_)
                            have hP : va_P (dC, dI) classes (mw ad cA 0 yr nf no nt bd nb fl AI AN AB (va_up AL 3 (va_up (AL 3) ((AN 4 j)) ((AL 3 ((AN 4 j))) + (((c0.toInt64) * ((AI 20 (10 * k + r)).toInt64)) / ((AI 21 (10 * k + r)).toInt64)))))) H := hP
                            have hD : va_D A (mw ad cA 0 yr nf no nt bd nb fl AI AN AB (va_up AL 3 (va_up (AL 3) ((AN 4 j)) ((AL 3 ((AN 4 j))) + (((c0.toInt64) * ((AI 20 (10 * k + r)).toInt64)) / ((AI 21 (10 * k + r)).toInt64)))))) := hD
                            refine lv_aload_n hx hb d_Mo_invoice_264 rfl (lv_at hl 3 rfl) ?_
                            refine va_get (D := (dC, dI)) (ci := 7) (v := .ref (ad 10)) (C := R_Mo) (T := F_Mo) (N := 31) hx hb hG iG_Mo hown hK hP 0 rfl rfl 13 (by decide) (hG _ k_536) (fun _ h9 => h9) rfl d_Mo_invoice_265 ?_
                            refine lv_iload_n hx hb d_Mo_invoice_268 rfl (lv_at hl 4 rfl) ?_
                            refine lv_lload hx hb d_Mo_invoice_269 (lv_at hl 1 rfl) ?_
                            refine lv_aload_n hx hb d_Mo_invoice_271 rfl (lv_at hl 3 rfl) ?_
                            refine va_get (D := (dC, dI)) (ci := 7) (v := .ref (ad 5)) (C := R_Mo) (T := F_Mo) (N := 31) hx hb hG iG_Mo hown hK hP 0 rfl rfl 8 (by decide) (hG _ k_531) (fun _ h9 => h9) rfl d_Mo_invoice_272 ?_
                            refine lv_iload_n hx hb d_Mo_invoice_275 rfl (lv_at hl 4 rfl) ?_
                            refine ra_iald (n := 300) (j := j) (f := AI 5) hx hb hK hP 5 4 rfl rfl (by omega) (by decide) d_Mo_invoice_276 ?_
                            refine lv_i2l hx hb d_Mo_invoice_277 rfl ?_
                            refine lv_lsub hx hb d_Mo_invoice_278 ?_
                            refine ra_last (n := 300) (j := j) (f := AL 10) hx hb hK hP hD hS 10 9 rfl rfl (by omega) (by decide) d_Mo_invoice_279 (fun H locs hP hD hS => ?_)
                            have hP : va_P (dC, dI) classes (mw ad cA 0 yr nf no nt bd nb fl AI AN AB (va_up (va_up AL 3 (va_up (AL 3) ((AN 4 j)) ((AL 3 ((AN 4 j))) + (((c0.toInt64) * ((AI 20 (10 * k + r)).toInt64)) / ((AI 21 (10 * k + r)).toInt64))))) 10 (va_up (AL 10) j ((((c0.toInt64) * ((AI 20 (10 * k + r)).toInt64)) / ((AI 21 (10 * k + r)).toInt64)) - ((AI 5 j).toInt64))))) H := hP
                            have hD : va_D A (mw ad cA 0 yr nf no nt bd nb fl AI AN AB (va_up (va_up AL 3 (va_up (AL 3) ((AN 4 j)) ((AL 3 ((AN 4 j))) + (((c0.toInt64) * ((AI 20 (10 * k + r)).toInt64)) / ((AI 21 (10 * k + r)).toInt64))))) 10 (va_up (AL 10) j ((((c0.toInt64) * ((AI 20 (10 * k + r)).toInt64)) / ((AI 21 (10 * k + r)).toInt64)) - ((AI 5 j).toInt64))))) := hD
                            refine lv_aload_n hx hb d_Mo_invoice_280 rfl (lv_at hl 3 rfl) ?_
                            refine va_get (D := (dC, dI)) (ci := 7) (v := .ref (ad 11)) (C := R_Mo) (T := F_Mo) (N := 31) hx hb hG iG_Mo hown hK hP 0 rfl rfl 14 (by decide) (hG _ k_537) (fun _ h9 => h9) rfl d_Mo_invoice_281 ?_
                            refine lv_iload_n hx hb d_Mo_invoice_284 rfl (lv_at hl 4 rfl) ?_
                            refine lv_dup2_11 hx hb d_Mo_invoice_285 rfl rfl ?_
                            refine ra_iald (n := 300) (j := j) (f := AI 11) hx hb hK hP 11 10 rfl rfl (by omega) (by decide) d_Mo_invoice_286 ?_
                            refine lv_iconst (v := 1) hx hb d_Mo_invoice_287 (by decide) ?_
                            refine lv_iadd hx hb d_Mo_invoice_288 ?_
                            refine ra_iast (n := 300) (j := j) (f := AI 11) hx hb hK hP hD hS 11 10 rfl rfl (by omega) (by decide) d_Mo_invoice_289 (fun H locs hP hD hS => ?_)
                            have hP : va_P (dC, dI) classes (mw ad cA 0 yr nf no nt bd nb fl (va_up AI 11 (va_up (AI 11) j ((AI 11 j) + 1))) AN AB (va_up (va_up AL 3 (va_up (AL 3) ((AN 4 j)) ((AL 3 ((AN 4 j))) + (((c0.toInt64) * ((AI 20 (10 * k + r)).toInt64)) / ((AI 21 (10 * k + r)).toInt64))))) 10 (va_up (AL 10) j ((((c0.toInt64) * ((AI 20 (10 * k + r)).toInt64)) / ((AI 21 (10 * k + r)).toInt64)) - ((AI 5 j).toInt64))))) H := hP
                            have hD : va_D A (mw ad cA 0 yr nf no nt bd nb fl (va_up AI 11 (va_up (AI 11) j ((AI 11 j) + 1))) AN AB (va_up (va_up AL 3 (va_up (AL 3) ((AN 4 j)) ((AL 3 ((AN 4 j))) + (((c0.toInt64) * ((AI 20 (10 * k + r)).toInt64)) / ((AI 21 (10 * k + r)).toInt64))))) 10 (va_up (AL 10) j ((((c0.toInt64) * ((AI 20 (10 * k + r)).toInt64)) / ((AI 21 (10 * k + r)).toInt64)) - ((AI 5 j).toInt64))))) := hD
                            refine lv_aload_n hx hb d_Mo_invoice_290 rfl (lv_at hl 3 rfl) ?_
                            refine va_get (D := (dC, dI)) (ci := 7) (v := .ref (ad 12)) (C := R_Mo) (T := F_Mo) (N := 31) hx hb hG iG_Mo hown hK hP 0 rfl rfl 15 (by decide) (hG _ k_538) (fun _ h9 => h9) rfl d_Mo_invoice_291 ?_
                            refine lv_iload_n hx hb d_Mo_invoice_294 rfl (lv_at hl 4 rfl) ?_
                            refine lv_iload hx hb d_Mo_invoice_295 (lv_at hl 7 rfl) ?_
                            refine lv_bipush (v := 30) hx hb d_Mo_invoice_297 (by decide) ?_
                            refine lv_idiv hx hb d_Mo_invoice_299 (by decide) ?_
                            refine ra_iast (n := 300) (j := j) (f := AI 12) hx hb hK hP hD hS 12 11 rfl rfl (by omega) (by decide) d_Mo_invoice_300 (fun H locs hP hD hS => ?_)
                            have hP : va_P (dC, dI) classes (mw ad cA 0 yr nf no nt bd nb fl (va_up (va_up AI 11 (va_up (AI 11) j ((AI 11 j) + 1))) 12 (va_up (AI 12) j (on / 30))) AN AB (va_up (va_up AL 3 (va_up (AL 3) ((AN 4 j)) ((AL 3 ((AN 4 j))) + (((c0.toInt64) * ((AI 20 (10 * k + r)).toInt64)) / ((AI 21 (10 * k + r)).toInt64))))) 10 (va_up (AL 10) j ((((c0.toInt64) * ((AI 20 (10 * k + r)).toInt64)) / ((AI 21 (10 * k + r)).toInt64)) - ((AI 5 j).toInt64))))) H := hP
                            have hD : va_D A (mw ad cA 0 yr nf no nt bd nb fl (va_up (va_up AI 11 (va_up (AI 11) j ((AI 11 j) + 1))) 12 (va_up (AI 12) j (on / 30))) AN AB (va_up (va_up AL 3 (va_up (AL 3) ((AN 4 j)) ((AL 3 ((AN 4 j))) + (((c0.toInt64) * ((AI 20 (10 * k + r)).toInt64)) / ((AI 21 (10 * k + r)).toInt64))))) 10 (va_up (AL 10) j ((((c0.toInt64) * ((AI 20 (10 * k + r)).toInt64)) / ((AI 21 (10 * k + r)).toInt64)) - ((AI 5 j).toInt64))))) := hD
                            refine lv_aload_n hx hb d_Mo_invoice_301 rfl (lv_at hl 3 rfl) ?_
                            refine va_get (D := (dC, dI)) (ci := 7) (v := .ref (ad 6)) (C := R_Mo) (T := F_Mo) (N := 31) hx hb hG iG_Mo hown hK hP 0 rfl rfl 9 (by decide) (hG _ k_532) (fun _ h9 => h9) rfl d_Mo_invoice_302 ?_
                            refine lv_iload_n hx hb d_Mo_invoice_305 rfl (lv_at hl 4 rfl) ?_
                            refine rb_zald (n := 300) (j := j) (g := AB 6) hx hb hK hP 6 5 rfl rfl (by omega) (by decide) d_Mo_invoice_306 ?_
                            refine lb_if_ne (tgt := 317) hx hb d_Mo_invoice_307 (by decide) (fun c_47 => ?_) (fun c_47 => ?_)
                            · refine lv_lload hx hb d_Mo_invoice_317 (lv_at hl 1 rfl) ?_
                              exact W.lret (v := (((c0.toInt64) * ((AI 20 (10 * k + r)).toInt64)) / ((AI 21 (10 * k + r)).toInt64))) hx hb hr (fun t ht hW => ⟨⟨_, (0, yr, nf, no, nt, bd, nb, fl, va_up (va_up AI 11 (va_up (AI 11) j ((AI 11 j) + 1))) 12 (va_up (AI 12) j (on / 30)), AN, AB, va_up (va_up AL 3 (va_up (AL 3) ((AN 4 j)) ((AL 3 ((AN 4 j))) + (((c0.toInt64) * ((AI 20 (10 * k + r)).toInt64)) / ((AI 21 (10 * k + r)).toInt64))))) 10 (va_up (AL 10) j ((((c0.toInt64) * ((AI 20 (10 * k + r)).toInt64)) / ((AI 21 (10 * k + r)).toInt64)) - ((AI 5 j).toInt64)))), rfl, (by simp [m_invoice, m_house, ixn, bI, ej, ek, c_2, c_2n, c_4, c_6, c_8, c_9, c_10, c_29, hro, c_43, c_46] <;> (repeat' apply And.intro) <;> rfl), by rw [ht]; exact hP, va_K.moved hW.alike hK, hD⟩, hS.F ht⟩) hS.2.2 d_Mo_invoice_319
                            · exact absurd (c_10.symm.trans c_47) (by decide)
                          · refine lv_ldc2 (own := R_Mo) (v := (-4)) hx hb hown (hG _ k_684) d_Mo_invoice_244 ?_
                            exact W.lret (v := (-4)) hx hb hr (fun t ht hW => ⟨⟨_, (0, yr, nf, no, nt, bd, nb, fl, AI, AN, AB, AL), rfl, (by simp [m_invoice, m_house, ixn, bI, ej, ek, c_2, c_2n, c_4, c_6, c_8, c_9, c_10, c_29, hro, c_43, c_46] <;> (repeat' apply And.intro) <;> rfl), by rw [ht]; exact hP, va_K.moved hW.alike hK, hD⟩, hS.F ht⟩) hS.2.2 d_Mo_invoice_247
                      · refine lv_ldc2 (own := R_Mo) (v := (-5)) hx hb hown (hG _ k_683) d_Mo_invoice_204 ?_
                        exact W.lret (v := (-5)) hx hb hr (fun t ht hW => ⟨⟨_, (0, yr, nf, no, nt, bd, nb, fl, AI, AN, AB, AL), rfl, (by simp [m_invoice, m_house, ixn, bI, ej, ek, c_2, c_2n, c_4, c_6, c_8, c_9, c_10, c_29, hro, c_43] <;> (repeat' apply And.intro) <;> rfl), by rw [ht]; exact hP, va_K.moved hW.alike hK, hD⟩, hS.F ht⟩) hS.2.2 d_Mo_invoice_207
                    · exact absurd (nI_pos' (by omega)) c_41
                  · exact absurd (nI_pos' (by omega)) c_40
              · rw [Int32.not_lt] at c_29
                refine lv_ldc2 (own := R_Mo) (v := (-3)) hx hb hown (hG _ k_676) d_Mo_invoice_99 ?_
                exact W.lret (v := (-3)) hx hb hr (fun t ht hW => ⟨⟨_, (0, yr, nf, no, nt, bd, nb, fl, AI, AN, AB, AL), rfl, (by simp [m_invoice, m_house, ixn, bI, ej, ek, c_2, c_2n, c_4, c_6, c_8, c_9, c_10, c_29] <;> (repeat' apply And.intro) <;> rfl), by rw [ht]; exact hP, va_K.moved hW.alike hK, hD⟩, hS.F ht⟩) hS.2.2 d_Mo_invoice_102
        · refine lv_ldc2 (own := R_Mo) (v := (-2)) hx hb hown (hG _ k_675) d_Mo_invoice_62 ?_
          exact W.lret (v := (-2)) hx hb hr (fun t ht hW => ⟨⟨_, (0, yr, nf, no, nt, bd, nb, fl, AI, AN, AB, AL), rfl, (by simp [m_invoice, m_house, ixn, bI, ej, c_2, c_2n, c_4, c_6, c_8] <;> (repeat' apply And.intro) <;> rfl), by rw [ht]; exact hP, va_K.moved hW.alike hK, hD⟩, hS.F ht⟩) hS.2.2 d_Mo_invoice_65
  · have c_2n : inN i0 no = false := c_2
    refine lv_ldc2 (own := R_Mo) (v := (-1)) hx hb hown (hG _ k_672) d_Mo_invoice_21 ?_
    exact W.lret (v := (-1)) hx hb hr (fun t ht hW => ⟨⟨_, (0, yr, nf, no, nt, bd, nb, fl, AI, AN, AB, AL), rfl, (by simp [m_invoice, m_house, ixn, bI, c_2, c_2n] <;> (repeat' apply And.intro) <;> rfl), by rw [ht]; exact hP, va_K.moved hW.alike hK, hD⟩, hS.F ht⟩) hS.2.2 d_Mo_invoice_24
