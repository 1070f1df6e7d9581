theorem d_Mo_agree_0 : decode b_Mo_agree 0 = .ok (.aload_n 0, 1) := by decide +kernel
theorem d_Mo_agree_1 : decode b_Mo_agree 1 = .ok (.iconst 0, 1) := by decide +kernel
theorem d_Mo_agree_2 : decode b_Mo_agree 2 = .ok (.putfield 91, 3) := by decide +kernel
theorem d_Mo_agree_5 : decode b_Mo_agree 5 = .ok (.iload_n 1, 1) := by decide +kernel
theorem d_Mo_agree_6 : decode b_Mo_agree 6 = .ok (.i2l, 1) := by decide +kernel
theorem d_Mo_agree_7 : decode b_Mo_agree 7 = .ok (.lconst 0, 1) := by decide +kernel
theorem d_Mo_agree_8 : decode b_Mo_agree 8 = .ok (.aload_n 0, 1) := by decide +kernel
theorem d_Mo_agree_9 : decode b_Mo_agree 9 = .ok (.getfield 159, 3) := by decide +kernel
theorem d_Mo_agree_12 : decode b_Mo_agree 12 = .ok (.iconst 1, 1) := by decide +kernel
theorem d_Mo_agree_13 : decode b_Mo_agree 13 = .ok (.isub, 1) := by decide +kernel
theorem d_Mo_agree_14 : decode b_Mo_agree 14 = .ok (.i2l, 1) := by decide +kernel
theorem d_Mo_agree_15 : decode b_Mo_agree 15 = .ok (.invokestatic 97, 3) := by decide +kernel
theorem d_Mo_agree_18 : decode b_Mo_agree 18 = .ok (.ifCond .ne 5, 3) := by decide +kernel
theorem d_Mo_agree_21 : decode b_Mo_agree 21 = .ok (.iconst (-1), 1) := by decide +kernel
theorem d_Mo_agree_22 : decode b_Mo_agree 22 = .ok (.ireturn, 1) := by decide +kernel
theorem d_Mo_agree_23 : decode b_Mo_agree 23 = .ok (.iload_n 2, 1) := by decide +kernel
theorem d_Mo_agree_24 : decode b_Mo_agree 24 = .ok (.i2l, 1) := by decide +kernel
theorem d_Mo_agree_25 : decode b_Mo_agree 25 = .ok (.lconst 0, 1) := by decide +kernel
theorem d_Mo_agree_26 : decode b_Mo_agree 26 = .ok (.ldc2_w 133, 3) := by decide +kernel
theorem d_Mo_agree_29 : decode b_Mo_agree 29 = .ok (.invokestatic 97, 3) := by decide +kernel
theorem d_Mo_agree_32 : decode b_Mo_agree 32 = .ok (.ifCond .ne 6, 3) := by decide +kernel
theorem d_Mo_agree_35 : decode b_Mo_agree 35 = .ok (.bipush (-2), 2) := by decide +kernel
theorem d_Mo_agree_37 : decode b_Mo_agree 37 = .ok (.ireturn, 1) := by decide +kernel
theorem d_Mo_agree_38 : decode b_Mo_agree 38 = .ok (.aload_n 0, 1) := by decide +kernel
theorem d_Mo_agree_39 : decode b_Mo_agree 39 = .ok (.getfield 57, 3) := by decide +kernel
theorem d_Mo_agree_42 : decode b_Mo_agree 42 = .ok (.iload_n 1, 1) := by decide +kernel
theorem d_Mo_agree_43 : decode b_Mo_agree 43 = .ok (.baload, 1) := by decide +kernel
theorem d_Mo_agree_44 : decode b_Mo_agree 44 = .ok (.ifCond .ne 17, 3) := by decide +kernel
theorem d_Mo_agree_47 : decode b_Mo_agree 47 = .ok (.aload_n 0, 1) := by decide +kernel
theorem d_Mo_agree_48 : decode b_Mo_agree 48 = .ok (.getfield 60, 3) := by decide +kernel
theorem d_Mo_agree_51 : decode b_Mo_agree 51 = .ok (.bipush 100, 2) := by decide +kernel
theorem d_Mo_agree_53 : decode b_Mo_agree 53 = .ok (.iload_n 1, 1) := by decide +kernel
theorem d_Mo_agree_54 : decode b_Mo_agree 54 = .ok (.imul, 1) := by decide +kernel
theorem d_Mo_agree_55 : decode b_Mo_agree 55 = .ok (.iload_n 2, 1) := by decide +kernel
theorem d_Mo_agree_56 : decode b_Mo_agree 56 = .ok (.iadd, 1) := by decide +kernel
theorem d_Mo_agree_57 : decode b_Mo_agree 57 = .ok (.baload, 1) := by decide +kernel
theorem d_Mo_agree_58 : decode b_Mo_agree 58 = .ok (.ifCond .eq 6, 3) := by decide +kernel
theorem d_Mo_agree_61 : decode b_Mo_agree 61 = .ok (.bipush (-3), 2) := by decide +kernel
theorem d_Mo_agree_63 : decode b_Mo_agree 63 = .ok (.ireturn, 1) := by decide +kernel
theorem d_Mo_agree_64 : decode b_Mo_agree 64 = .ok (.iconst 1, 1) := by decide +kernel
theorem d_Mo_agree_65 : decode b_Mo_agree 65 = .ok (.istore_n 3, 1) := by decide +kernel
theorem d_Mo_agree_66 : decode b_Mo_agree 66 = .ok (.iconst 0, 1) := by decide +kernel
theorem d_Mo_agree_67 : decode b_Mo_agree 67 = .ok (.istore 4, 2) := by decide +kernel
theorem d_Mo_agree_69 : decode b_Mo_agree 69 = .ok (.iload 4, 2) := by decide +kernel
theorem d_Mo_agree_71 : decode b_Mo_agree 71 = .ok (.bipush 100, 2) := by decide +kernel
theorem d_Mo_agree_73 : decode b_Mo_agree 73 = .ok (.if_icmp .ge 32, 3) := by decide +kernel
theorem d_Mo_agree_76 : decode b_Mo_agree 76 = .ok (.iload_n 3, 1) := by decide +kernel
theorem d_Mo_agree_77 : decode b_Mo_agree 77 = .ok (.aload_n 0, 1) := by decide +kernel
theorem d_Mo_agree_78 : decode b_Mo_agree 78 = .ok (.getfield 60, 3) := by decide +kernel
theorem d_Mo_agree_81 : decode b_Mo_agree 81 = .ok (.bipush 100, 2) := by decide +kernel
theorem d_Mo_agree_83 : decode b_Mo_agree 83 = .ok (.iload_n 1, 1) := by decide +kernel
theorem d_Mo_agree_84 : decode b_Mo_agree 84 = .ok (.imul, 1) := by decide +kernel
theorem d_Mo_agree_85 : decode b_Mo_agree 85 = .ok (.iload 4, 2) := by decide +kernel
theorem d_Mo_agree_87 : decode b_Mo_agree 87 = .ok (.iadd, 1) := by decide +kernel
theorem d_Mo_agree_88 : decode b_Mo_agree 88 = .ok (.baload, 1) := by decide +kernel
theorem d_Mo_agree_89 : decode b_Mo_agree 89 = .ok (.ifCond .eq 7, 3) := by decide +kernel
theorem d_Mo_agree_92 : decode b_Mo_agree 92 = .ok (.iconst 1, 1) := by decide +kernel
theorem d_Mo_agree_93 : decode b_Mo_agree 93 = .ok (.goto 4, 3) := by decide +kernel
theorem d_Mo_agree_96 : decode b_Mo_agree 96 = .ok (.iconst 0, 1) := by decide +kernel
theorem d_Mo_agree_97 : decode b_Mo_agree 97 = .ok (.iadd, 1) := by decide +kernel
theorem d_Mo_agree_98 : decode b_Mo_agree 98 = .ok (.istore_n 3, 1) := by decide +kernel
theorem d_Mo_agree_99 : decode b_Mo_agree 99 = .ok (.iinc 4 1, 3) := by decide +kernel
theorem d_Mo_agree_102 : decode b_Mo_agree 102 = .ok (.goto (-33), 3) := by decide +kernel
theorem d_Mo_agree_105 : decode b_Mo_agree 105 = .ok (.iload_n 3, 1) := by decide +kernel
theorem d_Mo_agree_106 : decode b_Mo_agree 106 = .ok (.iconst 1, 1) := by decide +kernel
theorem d_Mo_agree_107 : decode b_Mo_agree 107 = .ok (.if_icmp .le 28, 3) := by decide +kernel
theorem d_Mo_agree_110 : decode b_Mo_agree 110 = .ok (.aload_n 0, 1) := by decide +kernel
theorem d_Mo_agree_111 : decode b_Mo_agree 111 = .ok (.aload_n 0, 1) := by decide +kernel
theorem d_Mo_agree_112 : decode b_Mo_agree 112 = .ok (.getfield 48, 3) := by decide +kernel
theorem d_Mo_agree_115 : decode b_Mo_agree 115 = .ok (.iload_n 1, 1) := by decide +kernel
theorem d_Mo_agree_116 : decode b_Mo_agree 116 = .ok (.iaload, 1) := by decide +kernel
theorem d_Mo_agree_117 : decode b_Mo_agree 117 = .ok (.invokevirtual 130, 3) := by decide +kernel
theorem d_Mo_agree_120 : decode b_Mo_agree 120 = .ok (.aload_n 0, 1) := by decide +kernel
theorem d_Mo_agree_121 : decode b_Mo_agree 121 = .ok (.getfield 54, 3) := by decide +kernel
theorem d_Mo_agree_124 : decode b_Mo_agree 124 = .ok (.iload_n 1, 1) := by decide +kernel
theorem d_Mo_agree_125 : decode b_Mo_agree 125 = .ok (.iaload, 1) := by decide +kernel
theorem d_Mo_agree_126 : decode b_Mo_agree 126 = .ok (.i2l, 1) := by decide +kernel
theorem d_Mo_agree_127 : decode b_Mo_agree 127 = .ok (.lcmp, 1) := by decide +kernel
theorem d_Mo_agree_128 : decode b_Mo_agree 128 = .ok (.ifCond .lt 7, 3) := by decide +kernel
theorem d_Mo_agree_131 : decode b_Mo_agree 131 = .ok (.iconst 1, 1) := by decide +kernel
theorem d_Mo_agree_132 : decode b_Mo_agree 132 = .ok (.goto 4, 3) := by decide +kernel
theorem d_Mo_agree_135 : decode b_Mo_agree 135 = .ok (.iconst 0, 1) := by decide +kernel
theorem d_Mo_agree_136 : decode b_Mo_agree 136 = .ok (.istore 4, 2) := by decide +kernel
theorem d_Mo_agree_138 : decode b_Mo_agree 138 = .ok (.iload 4, 2) := by decide +kernel
theorem d_Mo_agree_140 : decode b_Mo_agree 140 = .ok (.ifCond .eq 51, 3) := by decide +kernel
theorem d_Mo_agree_143 : decode b_Mo_agree 143 = .ok (.aload_n 0, 1) := by decide +kernel
theorem d_Mo_agree_144 : decode b_Mo_agree 144 = .ok (.aload_n 0, 1) := by decide +kernel
theorem d_Mo_agree_145 : decode b_Mo_agree 145 = .ok (.getfield 48, 3) := by decide +kernel
theorem d_Mo_agree_148 : decode b_Mo_agree 148 = .ok (.iload_n 1, 1) := by decide +kernel
theorem d_Mo_agree_149 : decode b_Mo_agree 149 = .ok (.iaload, 1) := by decide +kernel
theorem d_Mo_agree_150 : decode b_Mo_agree 150 = .ok (.aload_n 0, 1) := by decide +kernel
theorem d_Mo_agree_151 : decode b_Mo_agree 151 = .ok (.getfield 54, 3) := by decide +kernel
theorem d_Mo_agree_154 : decode b_Mo_agree 154 = .ok (.iload_n 1, 1) := by decide +kernel
theorem d_Mo_agree_155 : decode b_Mo_agree 155 = .ok (.iaload, 1) := by decide +kernel
theorem d_Mo_agree_156 : decode b_Mo_agree 156 = .ok (.ineg, 1) := by decide +kernel
theorem d_Mo_agree_157 : decode b_Mo_agree 157 = .ok (.i2l, 1) := by decide +kernel
theorem d_Mo_agree_158 : decode b_Mo_agree 158 = .ok (.lconst 0, 1) := by decide +kernel
theorem d_Mo_agree_159 : decode b_Mo_agree 159 = .ok (.lconst 0, 1) := by decide +kernel
theorem d_Mo_agree_160 : decode b_Mo_agree 160 = .ok (.invokevirtual 124, 3) := by decide +kernel
theorem d_Mo_agree_163 : decode b_Mo_agree 163 = .ok (.ifCond .eq 25, 3) := by decide +kernel
theorem d_Mo_agree_166 : decode b_Mo_agree 166 = .ok (.aload_n 0, 1) := by decide +kernel
theorem d_Mo_agree_167 : decode b_Mo_agree 167 = .ok (.aload_n 0, 1) := by decide +kernel
theorem d_Mo_agree_168 : decode b_Mo_agree 168 = .ok (.getfield 51, 3) := by decide +kernel
theorem d_Mo_agree_171 : decode b_Mo_agree 171 = .ok (.iload_n 1, 1) := by decide +kernel
theorem d_Mo_agree_172 : decode b_Mo_agree 172 = .ok (.iaload, 1) := by decide +kernel
theorem d_Mo_agree_173 : decode b_Mo_agree 173 = .ok (.aload_n 0, 1) := by decide +kernel
theorem d_Mo_agree_174 : decode b_Mo_agree 174 = .ok (.getfield 54, 3) := by decide +kernel
theorem d_Mo_agree_177 : decode b_Mo_agree 177 = .ok (.iload_n 1, 1) := by decide +kernel
theorem d_Mo_agree_178 : decode b_Mo_agree 178 = .ok (.iaload, 1) := by decide +kernel
theorem d_Mo_agree_179 : decode b_Mo_agree 179 = .ok (.i2l, 1) := by decide +kernel
theorem d_Mo_agree_180 : decode b_Mo_agree 180 = .ok (.lconst 0, 1) := by decide +kernel
theorem d_Mo_agree_181 : decode b_Mo_agree 181 = .ok (.lconst 0, 1) := by decide +kernel
theorem d_Mo_agree_182 : decode b_Mo_agree 182 = .ok (.invokevirtual 124, 3) := by decide +kernel
theorem d_Mo_agree_185 : decode b_Mo_agree 185 = .ok (.ifCond .ne 6, 3) := by decide +kernel
theorem d_Mo_agree_188 : decode b_Mo_agree 188 = .ok (.bipush (-4), 2) := by decide +kernel
theorem d_Mo_agree_190 : decode b_Mo_agree 190 = .ok (.ireturn, 1) := by decide +kernel
theorem d_Mo_agree_191 : decode b_Mo_agree 191 = .ok (.aload_n 0, 1) := by decide +kernel
theorem d_Mo_agree_192 : decode b_Mo_agree 192 = .ok (.getfield 60, 3) := by decide +kernel
theorem d_Mo_agree_195 : decode b_Mo_agree 195 = .ok (.bipush 100, 2) := by decide +kernel
theorem d_Mo_agree_197 : decode b_Mo_agree 197 = .ok (.iload_n 1, 1) := by decide +kernel
theorem d_Mo_agree_198 : decode b_Mo_agree 198 = .ok (.imul, 1) := by decide +kernel
theorem d_Mo_agree_199 : decode b_Mo_agree 199 = .ok (.iload_n 2, 1) := by decide +kernel
theorem d_Mo_agree_200 : decode b_Mo_agree 200 = .ok (.iadd, 1) := by decide +kernel
theorem d_Mo_agree_201 : decode b_Mo_agree 201 = .ok (.iconst 1, 1) := by decide +kernel
theorem d_Mo_agree_202 : decode b_Mo_agree 202 = .ok (.bastore, 1) := by decide +kernel
theorem d_Mo_agree_203 : decode b_Mo_agree 203 = .ok (.iload 4, 2) := by decide +kernel
theorem d_Mo_agree_205 : decode b_Mo_agree 205 = .ok (.ifCond .ne 5, 3) := by decide +kernel
theorem d_Mo_agree_208 : decode b_Mo_agree 208 = .ok (.iconst 1, 1) := by decide +kernel
theorem d_Mo_agree_209 : decode b_Mo_agree 209 = .ok (.ireturn, 1) := by decide +kernel
theorem d_Mo_agree_210 : decode b_Mo_agree 210 = .ok (.aload_n 0, 1) := by decide +kernel
theorem d_Mo_agree_211 : decode b_Mo_agree 211 = .ok (.getfield 57, 3) := by decide +kernel
theorem d_Mo_agree_214 : decode b_Mo_agree 214 = .ok (.iload_n 1, 1) := by decide +kernel
theorem d_Mo_agree_215 : decode b_Mo_agree 215 = .ok (.iconst 1, 1) := by decide +kernel
theorem d_Mo_agree_216 : decode b_Mo_agree 216 = .ok (.bastore, 1) := by decide +kernel
theorem d_Mo_agree_217 : decode b_Mo_agree 217 = .ok (.aload_n 0, 1) := by decide +kernel
theorem d_Mo_agree_218 : decode b_Mo_agree 218 = .ok (.getfield 13, 3) := by decide +kernel
theorem d_Mo_agree_221 : decode b_Mo_agree 221 = .ok (.aload_n 0, 1) := by decide +kernel
theorem d_Mo_agree_222 : decode b_Mo_agree 222 = .ok (.getfield 48, 3) := by decide +kernel
theorem d_Mo_agree_225 : decode b_Mo_agree 225 = .ok (.iload_n 1, 1) := by decide +kernel
theorem d_Mo_agree_226 : decode b_Mo_agree 226 = .ok (.iaload, 1) := by decide +kernel
theorem d_Mo_agree_227 : decode b_Mo_agree 227 = .ok (.dup2, 1) := by decide +kernel
theorem d_Mo_agree_228 : decode b_Mo_agree 228 = .ok (.laload, 1) := by decide +kernel
theorem d_Mo_agree_229 : decode b_Mo_agree 229 = .ok (.aload_n 0, 1) := by decide +kernel
theorem d_Mo_agree_230 : decode b_Mo_agree 230 = .ok (.getfield 54, 3) := by decide +kernel
theorem d_Mo_agree_233 : decode b_Mo_agree 233 = .ok (.iload_n 1, 1) := by decide +kernel
theorem d_Mo_agree_234 : decode b_Mo_agree 234 = .ok (.iaload, 1) := by decide +kernel
theorem d_Mo_agree_235 : decode b_Mo_agree 235 = .ok (.i2l, 1) := by decide +kernel
theorem d_Mo_agree_236 : decode b_Mo_agree 236 = .ok (.lsub, 1) := by decide +kernel
theorem d_Mo_agree_237 : decode b_Mo_agree 237 = .ok (.lastore, 1) := by decide +kernel
theorem d_Mo_agree_238 : decode b_Mo_agree 238 = .ok (.aload_n 0, 1) := by decide +kernel
theorem d_Mo_agree_239 : decode b_Mo_agree 239 = .ok (.getfield 13, 3) := by decide +kernel
theorem d_Mo_agree_242 : decode b_Mo_agree 242 = .ok (.aload_n 0, 1) := by decide +kernel
theorem d_Mo_agree_243 : decode b_Mo_agree 243 = .ok (.getfield 51, 3) := by decide +kernel
theorem d_Mo_agree_246 : decode b_Mo_agree 246 = .ok (.iload_n 1, 1) := by decide +kernel
theorem d_Mo_agree_247 : decode b_Mo_agree 247 = .ok (.iaload, 1) := by decide +kernel
theorem d_Mo_agree_248 : decode b_Mo_agree 248 = .ok (.dup2, 1) := by decide +kernel
theorem d_Mo_agree_249 : decode b_Mo_agree 249 = .ok (.laload, 1) := by decide +kernel
theorem d_Mo_agree_250 : decode b_Mo_agree 250 = .ok (.aload_n 0, 1) := by decide +kernel
theorem d_Mo_agree_251 : decode b_Mo_agree 251 = .ok (.getfield 54, 3) := by decide +kernel
theorem d_Mo_agree_254 : decode b_Mo_agree 254 = .ok (.iload_n 1, 1) := by decide +kernel
theorem d_Mo_agree_255 : decode b_Mo_agree 255 = .ok (.iaload, 1) := by decide +kernel
theorem d_Mo_agree_256 : decode b_Mo_agree 256 = .ok (.i2l, 1) := by decide +kernel
theorem d_Mo_agree_257 : decode b_Mo_agree 257 = .ok (.ladd, 1) := by decide +kernel
theorem d_Mo_agree_258 : decode b_Mo_agree 258 = .ok (.lastore, 1) := by decide +kernel
theorem d_Mo_agree_259 : decode b_Mo_agree 259 = .ok (.iconst 2, 1) := by decide +kernel
theorem d_Mo_agree_260 : decode b_Mo_agree 260 = .ok (.ireturn, 1) := by decide +kernel
set_option maxHeartbeats 4000000 in
set_option maxRecDepth 100000 in
theorem lp_Mo_agree {p : Program} {l : Launch} {e : Env} {s : State} {m : MethodId} {args : Array Value} {below : List Frame} {meth : Method} {c : Code} {Q : State → Prop} {R : Room} {H : Heap} {locs : List Loc} {cells slots : Nat} {dC : Nat → ClassId} {dI : Nat → Nat → Nat} {ad : Nat → Nat} {cA : Nat → ClassId} {th yr : Int32} {nf no nt : Nat} {bd : Int32} {nb : Nat} {fl : Int32} {AI : Nat → Nat → Int32} {AN : Nat → Nat → Nat} {AB : Nat → Nat → Bool} {AL : Nat → Nat → Int64} (hx : p.tables.exec = Jvm.exec) (hb : c.code = b_Mo_agree) (hml : c.maxLocals = 5) (hown : s.vm.findClass R_Mo = some m.cls) (hts : ∀ w ∈ w_Mo_agree, w.before args s = true) (hK : va_K (dC, dI) classes (mtys cA) s) (hP : va_P (dC, dI) classes (mw ad cA th yr nf no nt bd nb fl AI AN AB AL) H) (k : Nat) (hk : k < 100) (wq : Nat)
    (exit : ∀ ls : Array Slot, lv_has ls 5 [(4, .int (nI 100)), (3, .int (1 + m_cnt AB k)), (0, .ref (ad 0)), (1, .int (nI k)), (2, .int (nI wq))] → W p l e R s m args below meth c H locs cells slots Q (F0 m 105 ls [])) :
    ∀ n i : Nat, i ≤ 100 → 100 + 1 ≤ i + n → ∀ ls : Array Slot, lv_has ls 5 [(4, .int (nI i)), (3, .int (1 + sumI (fun q => if AB 17 (100 * k + q) = true then 1 else 0) i)), (0, .ref (ad 0)), (1, .int (nI k)), (2, .int (nI wq))] → W p l e R s m args below meth c H locs cells slots Q (F0 m 69 ls []) := by
  have hG := fun (w : Cond) (h : w ∈ wG) => hts w (List.mem_cons_of_mem _ h)
  intro n
  induction n with
  | zero =>
    intro i h1 h2
    omega
  | succ n ih =>
    intro i hi hin ls hl
    refine lv_iload hx hb d_Mo_agree_69 (lv_at hl 0 rfl) ?_
    refine lv_bipush (v := 100) hx hb d_Mo_agree_71 (by decide) ?_
    refine lv_icmp_ge (tgt := 105) hx hb d_Mo_agree_73 (by decide) (fun c_1 => ?_) (fun c_1 => ?_)
    · obtain rfl : i = 100 := by have := (nI_le100 hi).mp c_1; omega
      exact exit ls (lv_sub hl [0, 1, 2, 3, 4] rfl)
    · have hlt : i < 100 := by have h9 := c_1; rw [nI_le100 hi] at h9; omega
      refine lv_iload_n hx hb d_Mo_agree_76 rfl (lv_at hl 1 rfl) ?_
      refine lv_aload_n hx hb d_Mo_agree_77 rfl (lv_at hl 2 rfl) ?_
      refine va_get (D := (dC, dI)) (ci := 7) (v := .ref (ad 17)) (C := R_Mo) (T := F_Mo) (N := 31) hx hb hG iG_Mo hown hK hP 0 rfl rfl 21 (by decide) (hG _ k_544) (fun _ h9 => h9) rfl d_Mo_agree_78 ?_
      refine lv_bipush (v := 100) hx hb d_Mo_agree_81 (by decide) ?_
      refine lv_iload_n hx hb d_Mo_agree_83 rfl (lv_at hl 3 rfl) ?_
      refine lv_imul hx hb d_Mo_agree_84 ?_
      refine lv_topI (y := nI (100 * k)) (pk_mul 100 k) ?_
      refine lv_iload hx hb d_Mo_agree_85 (lv_at hl 0 rfl) ?_
      refine lv_iadd hx hb d_Mo_agree_87 ?_
      refine lv_topI (y := nI ((100 * k) + i)) (nI_add (100 * k) i) ?_
      refine rb_zald (n := 10000) (j := ((100 * k) + i)) (g := AB 17) hx hb hK hP 17 16 rfl rfl (by omega) (by decide) d_Mo_agree_88 ?_
      refine lb_if_eq (tgt := 96) hx hb d_Mo_agree_89 (by decide) (fun c_2 => ?_) (fun c_2 => ?_)
      · refine lv_iconst (v := 0) hx hb d_Mo_agree_96 (by decide) ?_
        refine lv_iadd hx hb d_Mo_agree_97 ?_
        refine lv_topI (y := 1 + sumI (fun q => if AB 17 (100 * k + q) = true then 1 else 0) (i + 1)) (by simp [sumI, Int32.add_assoc, c_2]) ?_
        refine lv_istore_n (lv' := [(3, .int (1 + sumI (fun q => if AB 17 (100 * k + q) = true then 1 else 0) (i + 1))), (4, .int (nI i)), (0, .ref (ad 0)), (1, .int (nI k)), (2, .int (nI wq))]) hx hb d_Mo_agree_98 rfl hl (by decide) rfl (fun ls hl => ?_)
        refine lv_iinc (v := nI (i + 1)) (lv' := [(4, .int (nI (i + 1))), (3, .int (1 + sumI (fun q => if AB 17 (100 * k + q) = true then 1 else 0) (i + 1))), (0, .ref (ad 0)), (1, .int (nI k)), (2, .int (nI wq))]) hx hb d_Mo_agree_99 hl (k := 1) rfl (nI_1 i) (by decide) rfl (fun ls hl => ?_)
        refine lv_goto (tgt := 69) hx hb d_Mo_agree_102 (by decide) ?_
        exact ih (i + 1) (by omega) (by omega) ls (lv_sub hl [0, 1, 2, 3, 4] rfl)
      · refine lv_iconst (v := 1) hx hb d_Mo_agree_92 (by decide) ?_
        refine lv_goto (tgt := 97) hx hb d_Mo_agree_93 (by decide) ?_
        refine lv_iadd hx hb d_Mo_agree_97 ?_
        refine lv_topI (y := 1 + sumI (fun q => if AB 17 (100 * k + q) = true then 1 else 0) (i + 1)) (by simp [sumI, Int32.add_assoc, c_2]) ?_
        refine lv_istore_n (lv' := [(3, .int (1 + sumI (fun q => if AB 17 (100 * k + q) = true then 1 else 0) (i + 1))), (4, .int (nI i)), (0, .ref (ad 0)), (1, .int (nI k)), (2, .int (nI wq))]) hx hb d_Mo_agree_98 rfl hl (by decide) rfl (fun ls hl => ?_)
        refine lv_iinc (v := nI (i + 1)) (lv' := [(4, .int (nI (i + 1))), (3, .int (1 + sumI (fun q => if AB 17 (100 * k + q) = true then 1 else 0) (i + 1))), (0, .ref (ad 0)), (1, .int (nI k)), (2, .int (nI wq))]) hx hb d_Mo_agree_99 hl (k := 1) rfl (nI_1 i) (by decide) rfl (fun ls hl => ?_)
        refine lv_goto (tgt := 69) hx hb d_Mo_agree_102 (by decide) ?_
        exact ih (i + 1) (by omega) (by omega) ls (lv_sub hl [0, 1, 2, 3, 4] rfl)
set_option maxHeartbeats 4000000 in
set_option maxRecDepth 100000 in
theorem c_Mo_agree (l : Launch) (dC : Nat → ClassId) (dI : Nat → Nat → Nat) (ad : Nat → Nat) (cA : Nat → ClassId) (th yr : Int32) (nf no nt : Nat) (bd : Int32) (nb : Nat) (fl : Int32) (AI : Nat → Nat → Int32) (AN : Nat → Nat → Nat) (AB : Nat → Nat → Bool) (AL : Nat → Nat → Int64) (sz : Nat) (i0 w0 : Int32) (hI : InvM nf no nt nb AI AN) : Met l y_Mo_agree w_Mo_agree { frames := 3, cells := 0, slots := 0, locals := 79 } (mu_P (dC, dI) classes (mtys cA) (mw ad cA th yr nf no nt bd nb fl AI AN AB AL) sz [.ref (ad 0), .int i0, .int w0]) (va_Qi (fun r u => (r, u) = m_agree (th, yr, nf, no, nt, bd, nb, fl, AI, AN, AB, AL) i0 w0) (mu_B (dC, dI) classes (mtys cA) (va_A (mw ad cA th yr nf no nt bd nb fl AI AN AB AL) sz) (mwS ad cA)) (va_A (mw ad cA th yr nf no nt bd nb fl AI AN AB AL) sz)) 0 0 (va_A (mw ad cA th yr nf no nt bd nb fl AI AN AB AL) sz) := by
  refine Met.ofW (cc := b_Mo_agree) (maxL := 5) (ret := (some .int)) (by decide) rfl ?_
  intro p e s m args below meth c s₁ B hml hv
  obtain ⟨rfl, hsz, hP, hK, hD0, hN⟩ := hv
  have hx := B.exec
  have hb := B.bytes
  have hr := B.returns
  have hts := atoms_spec (ws := w_Mo_agree) B.pre
  have hG := fun (w : Cond) (h : w ∈ wG) => hts w (List.mem_cons_of_mem _ h)
  have hown : s.vm.findClass R_Mo = some m.cls := findClass_of_methodNamed B.named
  have hlocks := B.notSynchronized
  subst hsz
  have hD := hD0.self (sz := s.heap.size)
  generalize hAe : va_A (mw ad cA th yr nf no nt bd nb fl AI AN AB AL) s.heap.size = A at hD ⊢
  have hA : ∀ q : Nat, s.heap.size ≤ q → A q := fun q h => by rw [← hAe]; exact Or.inr h
  have hS : va_S A s.heap s.heap [] := va_S.rf
  have hP : va_P (dC, dI) classes (mw ad cA th yr nf no nt bd nb fl AI AN AB AL) s.heap := hP
  have hl := lv_entry ([.ref (ad 0), .int i0, .int w0]) (n := 5) (Nat.le_of_ble_eq_true rfl)
  rw [lg_entry_eq]
  generalize (lg_sl ([.ref (ad 0), .int i0, .int w0]) ++ List.replicate (5 - (lg_sl ([.ref (ad 0), .int i0, .int w0])).length) Slot.unset).toArray = ls at hl ⊢
  have hl : lv_has ls 5 [(0, .ref (ad 0)), (1, .int i0), (2, .int w0)] := hl
  obtain ⟨hnf, hno, hnt, hnb, hfu, hft, hbf, hrw, hce, hdn⟩ := id hI
  refine lv_aload_n hx hb d_Mo_agree_0 rfl (lv_at hl 0 rfl) ?_
  refine lv_iconst (v := 0) hx hb d_Mo_agree_1 (by decide) ?_
  refine va_put (D := (dC, dI)) (ci := 7) (v := .int 0) (ty := .int) (C := R_Mo) (T := F_Mo) (N := 31) hx hb hG iG_Mo t_Mo t_Mo_ok n_Mo hown hK hP hD hS 0 rfl rfl 0 (by decide) (hG _ k_523) (fun _ h9 => h9) rfl (by decide +kernel) rfl rfl (Nat.le_of_ble_eq_true rfl) d_Mo_agree_2 (fun H locs hP hD hS => ?_)
  have hP : va_P (dC, dI) classes (mw ad cA 0 yr nf no nt bd nb fl AI AN AB AL) H := hP
  have hD : va_D A (mw ad cA 0 yr nf no nt bd nb fl AI AN AB AL) := hD
  refine lv_iload_n hx hb d_Mo_agree_5 rfl (lv_at hl 1 rfl) ?_
  refine lv_i2l hx hb d_Mo_agree_6 rfl ?_
  refine lv_lconst (v := 0) hx hb d_Mo_agree_7 (by decide) ?_
  refine lv_aload_n hx hb d_Mo_agree_8 rfl (lv_at hl 0 rfl) ?_
  refine va_get (D := (dC, dI)) (ci := 7) (v := .int (nI nt)) (C := R_Mo) (T := F_Mo) (N := 31) hx hb hG iG_Mo hown hK hP 0 rfl rfl 16 (by decide) (hG _ k_539) (fun _ h9 => h9) rfl d_Mo_agree_9 ?_
  refine lv_iconst (v := 1) hx hb d_Mo_agree_12 (by decide) ?_
  refine lv_isub hx hb d_Mo_agree_13 ?_
  refine lv_i2l hx hb d_Mo_agree_14 rfl ?_
  refine rd_calli (va_runS (As := [.long (i0.toInt64), .long 0, .long ((nI nt - 1).toInt64)]) (rest := []) ⟨hx, hb, hml, hown, hts⟩ (c_Mo_in l dC dI (mtys cA) (mw ad cA 0 yr nf no nt bd nb fl AI AN AB AL) (i0.toInt64) 0 ((nI nt - 1).toInt64)) (cwS 3 hts (gd_S k_629 k_630 k_17 k_631) rfl rfl rfl (by decide +kernel) ⟨Nat.le_of_ble_eq_true rfl, Nat.le_of_ble_eq_true rfl⟩) (rd_preS hK hN hP) rfl rfl hl.1 rfl (lv_room (Nat.le_of_ble_eq_true rfl)) d_Mo_agree_15 ⟨Nat.zero_le _, Nat.zero_le _⟩) (fun r_1 hr_1 => ?_)
  subst hr_1
  refine lb_if_ne (tgt := 23) hx hb d_Mo_agree_18 (by decide) (fun c_2 => ?_) (fun c_2 => ?_)
  · obtain ⟨k, hk, rfl⟩ := inN_of (n := nt) (by omega) c_2
    have ek : (nI k).toNatClampNeg = k := nI_clamp (by omega)
    have c_2n : inN (nI k) nt = true := c_2
    refine lv_iload_n hx hb d_Mo_agree_23 rfl (lv_at hl 2 rfl) ?_
    refine lv_i2l hx hb d_Mo_agree_24 rfl ?_
    refine lv_lconst (v := 0) hx hb d_Mo_agree_25 (by decide) ?_
    refine lv_ldc2 (own := R_Mo) (v := 99) hx hb hown (hG _ k_667) d_Mo_agree_26 ?_
    refine rd_calli (va_runS (As := [.long (w0.toInt64), .long 0, .long 99]) (rest := []) ⟨hx, hb, hml, hown, hts⟩ (c_Mo_in l dC dI (mtys cA) (mw ad cA 0 yr nf no nt bd nb fl AI AN AB AL) (w0.toInt64) 0 99) (cwS 3 hts (gd_S k_629 k_630 k_17 k_631) rfl rfl rfl (by decide +kernel) ⟨Nat.le_of_ble_eq_true rfl, Nat.le_of_ble_eq_true rfl⟩) (rd_preS hK hN hP) rfl rfl hl.1 rfl (lv_room (Nat.le_of_ble_eq_true rfl)) d_Mo_agree_29 ⟨Nat.zero_le _, Nat.zero_le _⟩) (fun r_3 hr_3 => ?_)
    subst hr_3
    refine lb_if_ne (tgt := 38) hx hb d_Mo_agree_32 (by decide) (fun c_4 => ?_) (fun c_4 => ?_)
    · obtain ⟨wq, hwq, rfl⟩ := in99 c_4
      have ewq : (nI wq).toNatClampNeg = wq := nI_clamp (by omega)
      refine lv_aload_n hx hb d_Mo_agree_38 rfl (lv_at hl 0 rfl) ?_
      refine va_get (D := (dC, dI)) (ci := 7) (v := .ref (ad 16)) (C := R_Mo) (T := F_Mo) (N := 31) hx hb hG iG_Mo hown hK hP 0 rfl rfl 20 (by decide) (hG _ k_543) (fun _ h9 => h9) rfl d_Mo_agree_39 ?_
      refine lv_iload_n hx hb d_Mo_agree_42 rfl (lv_at hl 1 rfl) ?_
      refine rb_zald (n := 100) (j := k) (g := AB 16) hx hb hK hP 16 15 rfl rfl (by omega) (by decide) d_Mo_agree_43 ?_
      refine lb_if_ne (tgt := 61) hx hb d_Mo_agree_44 (by decide) (fun c_5 => ?_) (fun c_5 => ?_)
      · refine lv_bipush (v := (-3)) hx hb d_Mo_agree_61 (by decide) ?_
        exact W.iret (v := (-3)) hx hb hr (fun t ht hW => ⟨⟨_, (0, yr, nf, no, nt, bd, nb, fl, AI, AN, AB, AL), rfl, (by simp [m_agree, ixn, bI, ek, ewq, c_2, c_2n, c_4, c_5] <;> (repeat' apply And.intro) <;> rfl), by rw [ht]; exact hP, va_K.moved hW.alike hK, hD⟩, hS.F ht⟩) hS.2.2 d_Mo_agree_63
      · refine lv_aload_n hx hb d_Mo_agree_47 rfl (lv_at hl 0 rfl) ?_
        refine va_get (D := (dC, dI)) (ci := 7) (v := .ref (ad 17)) (C := R_Mo) (T := F_Mo) (N := 31) hx hb hG iG_Mo hown hK hP 0 rfl rfl 21 (by decide) (hG _ k_544) (fun _ h9 => h9) rfl d_Mo_agree_48 ?_
        refine lv_bipush (v := 100) hx hb d_Mo_agree_51 (by decide) ?_
        refine lv_iload_n hx hb d_Mo_agree_53 rfl (lv_at hl 1 rfl) ?_
        refine lv_imul hx hb d_Mo_agree_54 ?_
        refine lv_topI (y := nI (100 * k)) (pk_mul 100 k) ?_
        refine lv_iload_n hx hb d_Mo_agree_55 rfl (lv_at hl 2 rfl) ?_
        refine lv_iadd hx hb d_Mo_agree_56 ?_
        refine lv_topI (y := nI ((100 * k) + wq)) (nI_add (100 * k) wq) ?_
        refine rb_zald (n := 10000) (j := ((100 * k) + wq)) (g := AB 17) hx hb hK hP 17 16 rfl rfl (by omega) (by decide) d_Mo_agree_57 ?_
        refine lb_if_eq (tgt := 64) hx hb d_Mo_agree_58 (by decide) (fun c_6 => ?_) (fun c_6 => ?_)
        · have hfk := hft k hk
          refine lv_iconst (v := 1) hx hb d_Mo_agree_64 (by decide) ?_
          refine lv_istore_n (lv' := [(3, .int 1), (0, .ref (ad 0)), (1, .int (nI k)), (2, .int (nI wq))]) hx hb d_Mo_agree_65 rfl hl (by decide) rfl (fun ls hl => ?_)
          refine lv_iconst (v := 0) hx hb d_Mo_agree_66 (by decide) ?_
          refine lv_istore (lv' := [(4, .int 0), (3, .int 1), (0, .ref (ad 0)), (1, .int (nI k)), (2, .int (nI wq))]) hx hb d_Mo_agree_67 hl (by decide) rfl (fun ls hl => ?_)
          refine lp_Mo_agree hx hb hml hown hts hK hP k (by omega) wq (fun ls hl => ?_) 101 0 (by omega) (by omega) ls (lv_sub hl [0, 1, 2, 3, 4] rfl)
          refine lv_iload_n hx hb d_Mo_agree_105 rfl (lv_at hl 1 rfl) ?_
          refine lv_iconst (v := 1) hx hb d_Mo_agree_106 (by decide) ?_
          refine lv_icmp_le (tgt := 135) hx hb d_Mo_agree_107 (by decide) (fun c_7 => ?_) (fun c_7 => ?_)
          · rw [← Int32.not_lt] at c_7
            refine lv_iconst (v := 0) hx hb d_Mo_agree_135 (by decide) ?_
            refine lv_istore (lv' := [(4, .int 0), (3, .int (1 + m_cnt AB k)), (0, .ref (ad 0)), (1, .int (nI k)), (2, .int (nI wq))]) hx hb d_Mo_agree_136 hl (by decide) rfl (fun ls hl => ?_)
            refine lv_iload hx hb d_Mo_agree_138 (lv_at hl 0 rfl) ?_
            refine lv_if_eq (tgt := 191) hx hb d_Mo_agree_140 (by decide) (fun c_8 => ?_) (fun c_8 => ?_)
            · refine lv_aload_n hx hb d_Mo_agree_191 rfl (lv_at hl 2 rfl) ?_
              refine va_get (D := (dC, dI)) (ci := 7) (v := .ref (ad 17)) (C := R_Mo) (T := F_Mo) (N := 31) hx hb hG iG_Mo hown hK hP 0 rfl rfl 21 (by decide) (hG _ k_544) (fun _ h9 => h9) rfl d_Mo_agree_192 ?_
              refine lv_bipush (v := 100) hx hb d_Mo_agree_195 (by decide) ?_
              refine lv_iload_n hx hb d_Mo_agree_197 rfl (lv_at hl 3 rfl) ?_
              refine lv_imul hx hb d_Mo_agree_198 ?_
              refine lv_topI (y := nI (100 * k)) (pk_mul 100 k) ?_
              refine lv_iload_n hx hb d_Mo_agree_199 rfl (lv_at hl 4 rfl) ?_
              refine lv_iadd hx hb d_Mo_agree_200 ?_
              refine lv_topI (y := nI ((100 * k) + wq)) (nI_add (100 * k) wq) ?_
              refine lv_iconst (v := 1) hx hb d_Mo_agree_201 (by decide) ?_
              refine rb_zast (n := 10000) (j := ((100 * k) + wq)) (g := AB 17) (b := true) hx hb hK hP hD hS 17 16 rfl rfl (by omega) (by decide) d_Mo_agree_202 (fun H locs hP hD hS => ?_)
              have hP : va_P (dC, dI) classes (mw ad cA 0 yr nf no nt bd nb fl AI AN (va_up AB 17 (va_up (AB 17) ((100 * k) + wq) true)) AL) H := hP
              have hD : va_D A (mw ad cA 0 yr nf no nt bd nb fl AI AN (va_up AB 17 (va_up (AB 17) ((100 * k) + wq) true)) AL) := hD
              refine lv_iload hx hb d_Mo_agree_203 (lv_at hl 0 rfl) ?_
              refine lv_if_ne (tgt := 210) hx hb d_Mo_agree_205 (by decide) (fun c_9 => ?_) (fun c_9 => ?_)
              · exact absurd c_9 (by decide)
              · refine lv_iconst (v := 1) hx hb d_Mo_agree_208 (by decide) ?_
                exact W.iret (v := 1) hx hb hr (fun t ht hW => ⟨⟨_, (0, yr, nf, no, nt, bd, nb, fl, AI, AN, va_up AB 17 (va_up (AB 17) ((100 * k) + wq) true), AL), rfl, (by simp [m_agree, ixn, bI, ek, ewq, c_2, c_2n, c_4, c_5, c_6, c_7] <;> (repeat' apply And.intro) <;> rfl), by rw [ht]; exact hP, va_K.moved hW.alike hK, hD⟩, hS.F ht⟩) hS.2.2 d_Mo_agree_209
            · exact absurd c_8 (by decide)
          · rw [Int32.not_le] at c_7
            refine lv_aload_n hx hb d_Mo_agree_110 rfl (lv_at hl 2 rfl) ?_
            refine lv_aload_n hx hb d_Mo_agree_111 rfl (lv_at hl 2 rfl) ?_
            refine va_get (D := (dC, dI)) (ci := 7) (v := .ref (ad 13)) (C := R_Mo) (T := F_Mo) (N := 31) hx hb hG iG_Mo hown hK hP 0 rfl rfl 17 (by decide) (hG _ k_540) (fun _ h9 => h9) rfl d_Mo_agree_112 ?_
            refine lv_iload_n hx hb d_Mo_agree_115 rfl (lv_at hl 3 rfl) ?_
            refine rn_iald (n := 100) (j := k) (g := AN 13) hx hb hK hP 13 12 rfl rfl (by omega) (by decide) d_Mo_agree_116 ?_
            refine rd_calll (va_runV (As := [.int (nI ((AN 13 k)))]) (rest := []) ⟨hx, hb, hml, hown, hts⟩ (c_Mo_free l dC dI ad cA 0 yr nf no nt bd nb fl AI AN AB AL ((AN 13 k)) hno (by omega)) (cwV 1 hts (gd_V k_659 k_661 k_10 k_17 k_662) rfl rfl rfl (by decide +kernel) ⟨Nat.le_of_ble_eq_true rfl, Nat.le_of_ble_eq_true rfl⟩) (rd_preV 0 hK hN hP rfl rfl) rfl rfl hl.1 rfl (lv_room (Nat.le_of_ble_eq_true rfl)) d_Mo_agree_117 ⟨Nat.zero_le _, Nat.zero_le _⟩) (fun r_10 hr_10 => ?_)
            subst hr_10
            refine lv_aload_n hx hb d_Mo_agree_120 rfl (lv_at hl 2 rfl) ?_
            refine va_get (D := (dC, dI)) (ci := 7) (v := .ref (ad 15)) (C := R_Mo) (T := F_Mo) (N := 31) hx hb hG iG_Mo hown hK hP 0 rfl rfl 19 (by decide) (hG _ k_542) (fun _ h9 => h9) rfl d_Mo_agree_121 ?_
            refine lv_iload_n hx hb d_Mo_agree_124 rfl (lv_at hl 3 rfl) ?_
            refine ra_iald (n := 100) (j := k) (f := AI 15) hx hb hK hP 15 14 rfl rfl (by omega) (by decide) d_Mo_agree_125 ?_
            refine lv_i2l hx hb d_Mo_agree_126 rfl ?_
            refine lc_lt (tgt := 135) hx hb d_Mo_agree_127 d_Mo_agree_128 (by decide) (fun c_11 => ?_) (fun c_11 => ?_)
            · rw [← Int64.not_le] at c_11
              refine lv_iconst (v := 0) hx hb d_Mo_agree_135 (by decide) ?_
              refine lv_istore (lv' := [(4, .int 0), (3, .int (1 + m_cnt AB k)), (0, .ref (ad 0)), (1, .int (nI k)), (2, .int (nI wq))]) hx hb d_Mo_agree_136 hl (by decide) rfl (fun ls hl => ?_)
              refine lv_iload hx hb d_Mo_agree_138 (lv_at hl 0 rfl) ?_
              refine lv_if_eq (tgt := 191) hx hb d_Mo_agree_140 (by decide) (fun c_12 => ?_) (fun c_12 => ?_)
              · refine lv_aload_n hx hb d_Mo_agree_191 rfl (lv_at hl 2 rfl) ?_
                refine va_get (D := (dC, dI)) (ci := 7) (v := .ref (ad 17)) (C := R_Mo) (T := F_Mo) (N := 31) hx hb hG iG_Mo hown hK hP 0 rfl rfl 21 (by decide) (hG _ k_544) (fun _ h9 => h9) rfl d_Mo_agree_192 ?_
                refine lv_bipush (v := 100) hx hb d_Mo_agree_195 (by decide) ?_
                refine lv_iload_n hx hb d_Mo_agree_197 rfl (lv_at hl 3 rfl) ?_
                refine lv_imul hx hb d_Mo_agree_198 ?_
                refine lv_topI (y := nI (100 * k)) (pk_mul 100 k) ?_
                refine lv_iload_n hx hb d_Mo_agree_199 rfl (lv_at hl 4 rfl) ?_
                refine lv_iadd hx hb d_Mo_agree_200 ?_
                refine lv_topI (y := nI ((100 * k) + wq)) (nI_add (100 * k) wq) ?_
                refine lv_iconst (v := 1) hx hb d_Mo_agree_201 (by decide) ?_
                refine rb_zast (n := 10000) (j := ((100 * k) + wq)) (g := AB 17) (b := true) hx hb hK hP hD hS 17 16 rfl rfl (by omega) (by decide) d_Mo_agree_202 (fun H locs hP hD hS => ?_)
                have hP : va_P (dC, dI) classes (mw ad cA 0 yr nf no nt bd nb fl AI AN (va_up AB 17 (va_up (AB 17) ((100 * k) + wq) true)) AL) H := hP
                have hD : va_D A (mw ad cA 0 yr nf no nt bd nb fl AI AN (va_up AB 17 (va_up (AB 17) ((100 * k) + wq) true)) AL) := hD
                refine lv_iload hx hb d_Mo_agree_203 (lv_at hl 0 rfl) ?_
                refine lv_if_ne (tgt := 210) hx hb d_Mo_agree_205 (by decide) (fun c_13 => ?_) (fun c_13 => ?_)
                · exact absurd c_13 (by decide)
                · refine lv_iconst (v := 1) hx hb d_Mo_agree_208 (by decide) ?_
                  exact W.iret (v := 1) hx hb hr (fun t ht hW => ⟨⟨_, (0, yr, nf, no, nt, bd, nb, fl, AI, AN, va_up AB 17 (va_up (AB 17) ((100 * k) + wq) true), AL), rfl, (by simp [m_agree, ixn, bI, ek, ewq, c_2, c_2n, c_4, c_5, c_6, c_7, c_11] <;> (repeat' apply And.intro) <;> rfl), by rw [ht]; exact hP, va_K.moved hW.alike hK, hD⟩, hS.F ht⟩) hS.2.2 d_Mo_agree_209
              · exact absurd c_12 (by decide)
            · rw [Int64.not_lt] at c_11
              refine lv_iconst (v := 1) hx hb d_Mo_agree_131 (by decide) ?_
              refine lv_goto (tgt := 136) hx hb d_Mo_agree_132 (by decide) ?_
              refine lv_istore (lv' := [(4, .int 1), (3, .int (1 + m_cnt AB k)), (0, .ref (ad 0)), (1, .int (nI k)), (2, .int (nI wq))]) hx hb d_Mo_agree_136 hl (by decide) rfl (fun ls hl => ?_)
              refine lv_iload hx hb d_Mo_agree_138 (lv_at hl 0 rfl) ?_
              refine lv_if_eq (tgt := 191) hx hb d_Mo_agree_140 (by decide) (fun c_14 => ?_) (fun c_14 => ?_)
              · exact absurd c_14 (by decide)
              · refine lv_aload_n hx hb d_Mo_agree_143 rfl (lv_at hl 2 rfl) ?_
                refine lv_aload_n hx hb d_Mo_agree_144 rfl (lv_at hl 2 rfl) ?_
                refine va_get (D := (dC, dI)) (ci := 7) (v := .ref (ad 13)) (C := R_Mo) (T := F_Mo) (N := 31) hx hb hG iG_Mo hown hK hP 0 rfl rfl 17 (by decide) (hG _ k_540) (fun _ h9 => h9) rfl d_Mo_agree_145 ?_
                refine lv_iload_n hx hb d_Mo_agree_148 rfl (lv_at hl 3 rfl) ?_
                refine rn_iald (n := 100) (j := k) (g := AN 13) hx hb hK hP 13 12 rfl rfl (by omega) (by decide) d_Mo_agree_149 ?_
                refine lv_aload_n hx hb d_Mo_agree_150 rfl (lv_at hl 2 rfl) ?_
                refine va_get (D := (dC, dI)) (ci := 7) (v := .ref (ad 15)) (C := R_Mo) (T := F_Mo) (N := 31) hx hb hG iG_Mo hown hK hP 0 rfl rfl 19 (by decide) (hG _ k_542) (fun _ h9 => h9) rfl d_Mo_agree_151 ?_
                refine lv_iload_n hx hb d_Mo_agree_154 rfl (lv_at hl 3 rfl) ?_
                refine ra_iald (n := 100) (j := k) (f := AI 15) hx hb hK hP 15 14 rfl rfl (by omega) (by decide) d_Mo_agree_155 ?_
                refine lv_ineg hx hb d_Mo_agree_156 ?_
                refine lv_i2l hx hb d_Mo_agree_157 rfl ?_
                refine lv_lconst (v := 0) hx hb d_Mo_agree_158 (by decide) ?_
                refine lv_lconst (v := 0) hx hb d_Mo_agree_159 (by decide) ?_
                refine rd_calli (va_runV (As := [.int (nI ((AN 13 k))), .long ((-(AI 15 k)).toInt64), .long 0, .long 0]) (rest := []) ⟨hx, hb, hml, hown, hts⟩ (c_Mo_fits l dC dI ad cA 0 yr nf no nt bd nb fl AI AN AB AL ((AN 13 k)) ((-(AI 15 k)).toInt64) 0 0 hno (by omega)) (cwV 4 hts (gd_V k_641 k_643 k_8 k_17 k_644) rfl rfl rfl (by decide +kernel) ⟨Nat.le_of_ble_eq_true rfl, Nat.le_of_ble_eq_true rfl⟩) (rd_preV 0 hK hN hP rfl rfl) rfl rfl hl.1 rfl (lv_room (Nat.le_of_ble_eq_true rfl)) d_Mo_agree_160 ⟨Nat.zero_le _, Nat.zero_le _⟩) (fun r_15 hr_15 => ?_)
                subst hr_15
                refine lb_if_eq (tgt := 188) hx hb d_Mo_agree_163 (by decide) (fun c_16 => ?_) (fun c_16 => ?_)
                · refine lv_bipush (v := (-4)) hx hb d_Mo_agree_188 (by decide) ?_
                  exact W.iret (v := (-4)) hx hb hr (fun t ht hW => ⟨⟨_, (0, yr, nf, no, nt, bd, nb, fl, AI, AN, AB, AL), rfl, (by simp [m_agree, ixn, bI, ek, ewq, c_2, c_2n, c_4, c_5, c_6, c_7, c_11, c_16] <;> (repeat' apply And.intro) <;> rfl), by rw [ht]; exact hP, va_K.moved hW.alike hK, hD⟩, hS.F ht⟩) hS.2.2 d_Mo_agree_190
                · refine lv_aload_n hx hb d_Mo_agree_166 rfl (lv_at hl 2 rfl) ?_
                  refine lv_aload_n hx hb d_Mo_agree_167 rfl (lv_at hl 2 rfl) ?_
                  refine va_get (D := (dC, dI)) (ci := 7) (v := .ref (ad 14)) (C := R_Mo) (T := F_Mo) (N := 31) hx hb hG iG_Mo hown hK hP 0 rfl rfl 18 (by decide) (hG _ k_541) (fun _ h9 => h9) rfl d_Mo_agree_168 ?_
                  refine lv_iload_n hx hb d_Mo_agree_171 rfl (lv_at hl 3 rfl) ?_
                  refine rn_iald (n := 100) (j := k) (g := AN 14) hx hb hK hP 14 13 rfl rfl (by omega) (by decide) d_Mo_agree_172 ?_
                  refine lv_aload_n hx hb d_Mo_agree_173 rfl (lv_at hl 2 rfl) ?_
                  refine va_get (D := (dC, dI)) (ci := 7) (v := .ref (ad 15)) (C := R_Mo) (T := F_Mo) (N := 31) hx hb hG iG_Mo hown hK hP 0 rfl rfl 19 (by decide) (hG _ k_542) (fun _ h9 => h9) rfl d_Mo_agree_174 ?_
                  refine lv_iload_n hx hb d_Mo_agree_177 rfl (lv_at hl 3 rfl) ?_
                  refine ra_iald (n := 100) (j := k) (f := AI 15) hx hb hK hP 15 14 rfl rfl (by omega) (by decide) d_Mo_agree_178 ?_
                  refine lv_i2l hx hb d_Mo_agree_179 rfl ?_
                  refine lv_lconst (v := 0) hx hb d_Mo_agree_180 (by decide) ?_
                  refine lv_lconst (v := 0) hx hb d_Mo_agree_181 (by decide) ?_
                  refine rd_calli (va_runV (As := [.int (nI ((AN 14 k))), .long ((AI 15 k).toInt64), .long 0, .long 0]) (rest := []) ⟨hx, hb, hml, hown, hts⟩ (c_Mo_fits l dC dI ad cA 0 yr nf no nt bd nb fl AI AN AB AL ((AN 14 k)) ((AI 15 k).toInt64) 0 0 hno (by omega)) (cwV 4 hts (gd_V k_641 k_643 k_8 k_17 k_644) rfl rfl rfl (by decide +kernel) ⟨Nat.le_of_ble_eq_true rfl, Nat.le_of_ble_eq_true rfl⟩) (rd_preV 0 hK hN hP rfl rfl) rfl rfl hl.1 rfl (lv_room (Nat.le_of_ble_eq_true rfl)) d_Mo_agree_182 ⟨Nat.zero_le _, Nat.zero_le _⟩) (fun r_17 hr_17 => ?_)
                  subst hr_17
                  refine lb_if_ne (tgt := 191) hx hb d_Mo_agree_185 (by decide) (fun c_18 => ?_) (fun c_18 => ?_)
                  · refine lv_aload_n hx hb d_Mo_agree_191 rfl (lv_at hl 2 rfl) ?_
                    refine va_get (D := (dC, dI)) (ci := 7) (v := .ref (ad 17)) (C := R_Mo) (T := F_Mo) (N := 31) hx hb hG iG_Mo hown hK hP 0 rfl rfl 21 (by decide) (hG _ k_544) (fun _ h9 => h9) rfl d_Mo_agree_192 ?_
                    refine lv_bipush (v := 100) hx hb d_Mo_agree_195 (by decide) ?_
                    refine lv_iload_n hx hb d_Mo_agree_197 rfl (lv_at hl 3 rfl) ?_
                    refine lv_imul hx hb d_Mo_agree_198 ?_
                    refine lv_topI (y := nI (100 * k)) (pk_mul 100 k) ?_
                    refine lv_iload_n hx hb d_Mo_agree_199 rfl (lv_at hl 4 rfl) ?_
                    refine lv_iadd hx hb d_Mo_agree_200 ?_
                    refine lv_topI (y := nI ((100 * k) + wq)) (nI_add (100 * k) wq) ?_
                    refine lv_iconst (v := 1) hx hb d_Mo_agree_201 (by decide) ?_
                    refine rb_zast (n := 10000) (j := ((100 * k) + wq)) (g := AB 17) (b := true) hx hb hK hP hD hS 17 16 rfl rfl (by omega) (by decide) d_Mo_agree_202 (fun H locs hP hD hS => ?_)
                    have hP : va_P (dC, dI) classes (mw ad cA 0 yr nf no nt bd nb fl AI AN (va_up AB 17 (va_up (AB 17) ((100 * k) + wq) true)) AL) H := hP
                    have hD : va_D A (mw ad cA 0 yr nf no nt bd nb fl AI AN (va_up AB 17 (va_up (AB 17) ((100 * k) + wq) true)) AL) := hD
                    refine lv_iload hx hb d_Mo_agree_203 (lv_at hl 0 rfl) ?_
                    refine lv_if_ne (tgt := 210) hx hb d_Mo_agree_205 (by decide) (fun c_19 => ?_) (fun c_19 => ?_)
                    · refine lv_aload_n hx hb d_Mo_agree_210 rfl (lv_at hl 2 rfl) ?_
                      refine va_get (D := (dC, dI)) (ci := 7) (v := .ref (ad 16)) (C := R_Mo) (T := F_Mo) (N := 31) hx hb hG iG_Mo hown hK hP 0 rfl rfl 20 (by decide) (hG _ k_543) (fun _ h9 => h9) rfl d_Mo_agree_211 ?_
                      refine lv_iload_n hx hb d_Mo_agree_214 rfl (lv_at hl 3 rfl) ?_
                      refine lv_iconst (v := 1) hx hb d_Mo_agree_215 (by decide) ?_
                      refine rb_zast (n := 100) (j := k) (g := AB 16) (b := true) hx hb hK hP hD hS 16 15 rfl rfl (by omega) (by decide) d_Mo_agree_216 (fun H locs hP hD hS => ?_)
                      have hP : va_P (dC, dI) classes (mw ad cA 0 yr nf no nt bd nb fl AI AN (va_up (va_up AB 17 (va_up (AB 17) ((100 * k) + wq) true)) 16 (va_up (AB 16) k true)) AL) H := hP
                      have hD : va_D A (mw ad cA 0 yr nf no nt bd nb fl AI AN (va_up (va_up AB 17 (va_up (AB 17) ((100 * k) + wq) true)) 16 (va_up (AB 16) k true)) AL) := hD
                      refine lv_aload_n hx hb d_Mo_agree_217 rfl (lv_at hl 2 rfl) ?_
                      refine va_get (D := (dC, dI)) (ci := 7) (v := .ref (ad 2)) (C := R_Mo) (T := F_Mo) (N := 31) hx hb hG iG_Mo hown hK hP 0 rfl rfl 4 (by decide) (hG _ k_527) (fun _ h9 => h9) rfl d_Mo_agree_218 ?_
                      refine lv_aload_n hx hb d_Mo_agree_221 rfl (lv_at hl 2 rfl) ?_
                      refine va_get (D := (dC, dI)) (ci := 7) (v := .ref (ad 13)) (C := R_Mo) (T := F_Mo) (N := 31) hx hb hG iG_Mo hown hK hP 0 rfl rfl 17 (by decide) (hG _ k_540) (fun _ h9 => h9) rfl d_Mo_agree_222 ?_
                      refine lv_iload_n hx hb d_Mo_agree_225 rfl (lv_at hl 3 rfl) ?_
                      refine rn_iald (n := 100) (j := k) (g := AN 13) hx hb hK hP 13 12 rfl rfl (by omega) (by decide) d_Mo_agree_226 ?_
                      refine lv_dup2_11 hx hb d_Mo_agree_227 rfl rfl ?_
                      refine ra_lald (n := 30) (j := ((AN 13 k))) (f := AL 2) hx hb hK hP 2 1 rfl rfl (by omega) (by decide) d_Mo_agree_228 ?_
                      refine lv_aload_n hx hb d_Mo_agree_229 rfl (lv_at hl 2 rfl) ?_
                      refine va_get (D := (dC, dI)) (ci := 7) (v := .ref (ad 15)) (C := R_Mo) (T := F_Mo) (N := 31) hx hb hG iG_Mo hown hK hP 0 rfl rfl 19 (by decide) (hG _ k_542) (fun _ h9 => h9) rfl d_Mo_agree_230 ?_
                      refine lv_iload_n hx hb d_Mo_agree_233 rfl (lv_at hl 3 rfl) ?_
                      refine ra_iald (n := 100) (j := k) (f := AI 15) hx hb hK hP 15 14 rfl rfl (by omega) (by decide) d_Mo_agree_234 ?_
                      refine lv_i2l hx hb d_Mo_agree_235 rfl ?_
                      refine lv_lsub hx hb d_Mo_agree_236 ?_
                      refine ra_last (n := 30) (j := ((AN 13 k))) (f := AL 2) hx hb hK hP hD hS 2 1 rfl rfl (by omega) (by decide) d_Mo_agree_237 (fun H locs hP hD hS => ?_)
                      have hP : va_P (dC, dI) classes (mw ad cA 0 yr nf no nt bd nb fl AI AN (va_up (va_up AB 17 (va_up (AB 17) ((100 * k) + wq) true)) 16 (va_up (AB 16) k true)) (va_up AL 2 (va_up (AL 2) ((AN 13 k)) ((AL 2 ((AN 13 k))) - ((AI 15 k).toInt64))))) H := hP
                      have hD : va_D A (mw ad cA 0 yr nf no nt bd nb fl AI AN (va_up (va_up AB 17 (va_up (AB 17) ((100 * k) + wq) true)) 16 (va_up (AB 16) k true)) (va_up AL 2 (va_up (AL 2) ((AN 13 k)) ((AL 2 ((AN 13 k))) - ((AI 15 k).toInt64))))) := hD
                      refine lv_aload_n hx hb d_Mo_agree_238 rfl (lv_at hl 2 rfl) ?_
                      refine va_get (D := (dC, dI)) (ci := 7) (v := .ref (ad 2)) (C := R_Mo) (T := F_Mo) (N := 31) hx hb hG iG_Mo hown hK hP 0 rfl rfl 4 (by decide) (hG _ k_527) (fun _ h9 => h9) rfl d_Mo_agree_239 ?_
                      refine lv_aload_n hx hb d_Mo_agree_242 rfl (lv_at hl 2 rfl) ?_
                      refine va_get (D := (dC, dI)) (ci := 7) (v := .ref (ad 14)) (C := R_Mo) (T := F_Mo) (N := 31) hx hb hG iG_Mo hown hK hP 0 rfl rfl 18 (by decide) (hG _ k_541) (fun _ h9 => h9) rfl d_Mo_agree_243 ?_
                      refine lv_iload_n hx hb d_Mo_agree_246 rfl (lv_at hl 3 rfl) ?_
                      refine rn_iald (n := 100) (j := k) (g := AN 14) hx hb hK hP 14 13 rfl rfl (by omega) (by decide) d_Mo_agree_247 ?_
                      refine lv_dup2_11 hx hb d_Mo_agree_248 rfl rfl ?_
                      refine ra_lald (n := 30) (j := ((AN 14 k))) (f := va_up (AL 2) ((AN 13 k)) ((AL 2 ((AN 13 k))) - ((AI 15 k).toInt64))) hx hb hK hP 2 1 rfl rfl (by omega) (by decide) d_Mo_agree_249 ?_
                      refine lv_aload_n hx hb d_Mo_agree_250 rfl (lv_at hl 2 rfl) ?_
                      refine va_get (D := (dC, dI)) (ci := 7) (v := .ref (ad 15)) (C := R_Mo) (T := F_Mo) (N := 31) hx hb hG iG_Mo hown hK hP 0 rfl rfl 19 (by decide) (hG _ k_542) (fun _ h9 => h9) rfl d_Mo_agree_251 ?_
                      refine lv_iload_n hx hb d_Mo_agree_254 rfl (lv_at hl 3 rfl) ?_
                      refine ra_iald (n := 100) (j := k) (f := AI 15) hx hb hK hP 15 14 rfl rfl (by omega) (by decide) d_Mo_agree_255 ?_
                      refine lv_i2l hx hb d_Mo_agree_256 rfl ?_
                      refine lv_ladd hx hb d_Mo_agree_257 ?_
                      refine ra_last (n := 30) (j := ((AN 14 k))) (f := va_up (AL 2) ((AN 13 k)) ((AL 2 ((AN 13 k))) - ((AI 15 k).toInt64))) hx hb hK hP hD hS 2 1 rfl rfl (by omega) (by decide) d_Mo_agree_258 (fun H locs hP hD hS => ?_)
                      have hP : va_P (dC, dI) classes (mw ad cA 0 yr nf no nt bd nb fl AI AN (va_up (va_up AB 17 (va_up (AB 17) ((100 * k) + wq) true)) 16 (va_up (AB 16) k true)) (va_up (va_up AL 2 (va_up (AL 2) ((AN 13 k)) ((AL 2 ((AN 13 k))) - ((AI 15 k).toInt64)))) 2 (va_up (va_up (AL 2) ((AN 13 k)) ((AL 2 ((AN 13 k))) - ((AI 15 k).toInt64))) ((AN 14 k)) (((va_up (AL 2) ((AN 13 k)) ((AL 2 ((AN 13 k))) - ((AI 15 k).toInt64))) ((AN 14 k))) + ((AI 15 k).toInt64))))) H := hP
                      have hD : va_D A (mw ad cA 0 yr nf no nt bd nb fl AI AN (va_up (va_up AB 17 (va_up (AB 17) ((100 * k) + wq) true)) 16 (va_up (AB 16) k true)) (va_up (va_up AL 2 (va_up (AL 2) ((AN 13 k)) ((AL 2 ((AN 13 k))) - ((AI 15 k).toInt64)))) 2 (va_up (va_up (AL 2) ((AN 13 k)) ((AL 2 ((AN 13 k))) - ((AI 15 k).toInt64))) ((AN 14 k)) (((va_up (AL 2) ((AN 13 k)) ((AL 2 ((AN 13 k))) - ((AI 15 k).toInt64))) ((AN 14 k))) + ((AI 15 k).toInt64))))) := hD
                      refine lv_iconst (v := 2) hx hb d_Mo_agree_259 (by decide) ?_
                      exact W.iret (v := 2) hx hb hr (fun t ht hW => ⟨⟨_, (0, yr, nf, no, nt, bd, nb, fl, AI, AN, va_up (va_up AB 17 (va_up (AB 17) ((100 * k) + wq) true)) 16 (va_up (AB 16) k true), va_up (va_up AL 2 (va_up (AL 2) ((AN 13 k)) ((AL 2 ((AN 13 k))) - ((AI 15 k).toInt64)))) 2 (va_up (va_up (AL 2) ((AN 13 k)) ((AL 2 ((AN 13 k))) - ((AI 15 k).toInt64))) ((AN 14 k)) (((va_up (AL 2) ((AN 13 k)) ((AL 2 ((AN 13 k))) - ((AI 15 k).toInt64))) ((AN 14 k))) + ((AI 15 k).toInt64)))), rfl, (by simp [m_agree, ixn, bI, ek, ewq, c_2, c_2n, c_4, c_5, c_6, c_7, c_11, c_16, c_18] <;> (repeat' apply And.intro) <;> rfl), by rw [ht]; exact hP, va_K.moved hW.alike hK, hD⟩, hS.F ht⟩) hS.2.2 d_Mo_agree_260
                    · exact absurd c_19 (by decide)
                  · refine lv_bipush (v := (-4)) hx hb d_Mo_agree_188 (by decide) ?_
                    exact W.iret (v := (-4)) hx hb hr (fun t ht hW => ⟨⟨_, (0, yr, nf, no, nt, bd, nb, fl, AI, AN, AB, AL), rfl, (by simp [m_agree, ixn, bI, ek, ewq, c_2, c_2n, c_4, c_5, c_6, c_7, c_11, c_16, c_18] <;> (repeat' apply And.intro) <;> rfl), by rw [ht]; exact hP, va_K.moved hW.alike hK, hD⟩, hS.F ht⟩) hS.2.2 d_Mo_agree_190
        · refine lv_bipush (v := (-3)) hx hb d_Mo_agree_61 (by decide) ?_
          exact W.iret (v := (-3)) hx hb hr (fun t ht hW => ⟨⟨_, (0, yr, nf, no, nt, bd, nb, fl, AI, AN, AB, AL), rfl, (by simp [m_agree, ixn, bI, ek, ewq, c_2, c_2n, c_4, c_5, c_6] <;> (repeat' apply And.intro) <;> rfl), by rw [ht]; exact hP, va_K.moved hW.alike hK, hD⟩, hS.F ht⟩) hS.2.2 d_Mo_agree_63
    · refine lv_bipush (v := (-2)) hx hb d_Mo_agree_35 (by decide) ?_
      exact W.iret (v := (-2)) hx hb hr (fun t ht hW => ⟨⟨_, (0, yr, nf, no, nt, bd, nb, fl, AI, AN, AB, AL), rfl, (by simp [m_agree, ixn, bI, ek, c_2, c_2n, c_4] <;> (repeat' apply And.intro) <;> rfl), by rw [ht]; exact hP, va_K.moved hW.alike hK, hD⟩, hS.F ht⟩) hS.2.2 d_Mo_agree_37
  · have c_2n : inN i0 nt = false := c_2
    refine lv_iconst (v := (-1)) hx hb d_Mo_agree_21 (by decide) ?_
    exact W.iret (v := (-1)) hx hb hr (fun t ht hW => ⟨⟨_, (0, yr, nf, no, nt, bd, nb, fl, AI, AN, AB, AL), rfl, (by simp [m_agree, ixn, bI, c_2, c_2n] <;> (repeat' apply And.intro) <;> rfl), by rw [ht]; exact hP, va_K.moved hW.alike hK, hD⟩, hS.F ht⟩) hS.2.2 d_Mo_agree_22
