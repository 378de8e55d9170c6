/-! p53: the law's own rows -/
section
set_option maxRecDepth 100000 in
theorem q417 : xMc 417 = code := rfl
theorem m417 : xMl 417 = 11 ∧ xMret 417 = (some FieldType.boolean) ∧ xMh 417 = [] := by decide +kernel
theorem e417 {X : xX} {d : Nat} {w : xH} {Q : xO → xH → Prop} (a : Nat) (x0 : Nat) : Cw X d 417 [.ref a, .retAddr x0] w Q = Wx X d 417 0 [some (.ref a), some (.retAddr x0), none, none, none, none, none, none, none, none, none] [] w Q := by
  unfold Cw
  rw [m417.1]
  rfl
theorem d417_0 : decode code 0 = .ok (.new 10, 3) := by decide +kernel
theorem d417_3 : decode code 3 = .ok (.dup, 1) := by decide +kernel
theorem d417_4 : decode code 4 = .ok (.invokespecial 289, 3) := by decide +kernel
theorem k417_289_98 : xCa (xMo 417) 289 98 = some (2, 0, 0) := by decide +kernel
theorem d417_7 : decode code 7 = .ok (.astore_n 1, 1) := by decide +kernel
theorem d417_8 : decode code 8 = .ok (.lconst 0, 1) := by decide +kernel
theorem d417_9 : decode code 9 = .ok (.lstore_n 2, 1) := by decide +kernel
theorem d417_10 : decode code 10 = .ok (.aload_n 1, 1) := by decide +kernel
theorem d417_11 : decode code 11 = .ok (.invokestatic 290, 3) := by decide +kernel
theorem k417_290_99 : xCa (xMo 417) 290 99 = some (0, 194, 1) := by decide +kernel
theorem d417_14 : decode code 14 = .ok (.ifCond .eq 25, 3) := by decide +kernel
theorem d417_17 : decode code 17 = .ok (.aload_n 1, 1) := by decide +kernel
theorem d417_18 : decode code 18 = .ok (.invokestatic 294, 3) := by decide +kernel
theorem k417_294_99 : xCa (xMo 417) 294 99 = some (0, 212, 1) := by decide +kernel
theorem d417_21 : decode code 21 = .ok (.ldc 20, 2) := by decide +kernel
theorem d417_23 : decode code 23 = .ok (.if_icmp .ne 16, 3) := by decide +kernel
theorem d417_26 : decode code 26 = .ok (.aload_n 1, 1) := by decide +kernel
theorem d417_27 : decode code 27 = .ok (.invokestatic 296, 3) := by decide +kernel
theorem k417_296_99 : xCa (xMo 417) 296 99 = some (0, 193, 1) := by decide +kernel
theorem d417_30 : decode code 30 = .ok (.ldc 20, 2) := by decide +kernel
theorem d417_32 : decode code 32 = .ok (.if_icmp .ne 7, 3) := by decide +kernel
theorem d417_35 : decode code 35 = .ok (.iconst 1, 1) := by decide +kernel
theorem d417_36 : decode code 36 = .ok (.goto 4, 3) := by decide +kernel
theorem d417_39 : decode code 39 = .ok (.iconst 0, 1) := by decide +kernel
theorem d417_40 : decode code 40 = .ok (.istore 4, 2) := by decide +kernel
theorem d417_42 : decode code 42 = .ok (.iconst 0, 1) := by decide +kernel
theorem d417_43 : decode code 43 = .ok (.istore 5, 2) := by decide +kernel
theorem d417_45 : decode code 45 = .ok (.iload 5, 2) := by decide +kernel
theorem d417_47 : decode code 47 = .ok (.bipush 31, 2) := by decide +kernel
theorem d417_49 : decode code 49 = .ok (.if_icmp .ge 271, 3) := by decide +kernel
theorem d417_52 : decode code 52 = .ok (.iload 4, 2) := by decide +kernel
theorem d417_54 : decode code 54 = .ok (.ifCond .eq 266, 3) := by decide +kernel
theorem d417_57 : decode code 57 = .ok (.aload_n 0, 1) := by decide +kernel
theorem d417_58 : decode code 58 = .ok (.iconst 2, 1) := by decide +kernel
theorem d417_59 : decode code 59 = .ok (.iload 5, 2) := by decide +kernel
theorem d417_61 : decode code 61 = .ok (.imul, 1) := by decide +kernel
theorem d417_62 : decode code 62 = .ok (.invokestatic 298, 3) := by decide +kernel
theorem k417_298_99 : xCa (xMo 417) 298 99 = some (0, 200, 2) := by decide +kernel
theorem d417_65 : decode code 65 = .ok (.istore 6, 2) := by decide +kernel
theorem d417_67 : decode code 67 = .ok (.aload_n 0, 1) := by decide +kernel
theorem d417_68 : decode code 68 = .ok (.iconst 2, 1) := by decide +kernel
theorem d417_69 : decode code 69 = .ok (.iload 5, 2) := by decide +kernel
theorem d417_71 : decode code 71 = .ok (.imul, 1) := by decide +kernel
theorem d417_72 : decode code 72 = .ok (.iconst 1, 1) := by decide +kernel
theorem d417_73 : decode code 73 = .ok (.iadd, 1) := by decide +kernel
theorem d417_74 : decode code 74 = .ok (.invokestatic 298, 3) := by decide +kernel
theorem d417_77 : decode code 77 = .ok (.istore 7, 2) := by decide +kernel
theorem d417_79 : decode code 79 = .ok (.aload_n 1, 1) := by decide +kernel
theorem d417_80 : decode code 80 = .ok (.invokestatic 302, 3) := by decide +kernel
theorem k417_302_99 : xCa (xMo 417) 302 99 = some (0, 199, 1) := by decide +kernel
theorem d417_83 : decode code 83 = .ok (.lstore 8, 2) := by decide +kernel
theorem d417_85 : decode code 85 = .ok (.aload_n 1, 1) := by decide +kernel
theorem d417_86 : decode code 86 = .ok (.iload 6, 2) := by decide +kernel
theorem d417_88 : decode code 88 = .ok (.iload 7, 2) := by decide +kernel
theorem d417_90 : decode code 90 = .ok (.invokestatic 306, 3) := by decide +kernel
theorem k417_306_99 : xCa (xMo 417) 306 99 = some (0, 178, 3) := by decide +kernel
theorem d417_93 : decode code 93 = .ok (.ifCond .eq 42, 3) := by decide +kernel
theorem d417_96 : decode code 96 = .ok (.iload 5, 2) := by decide +kernel
theorem d417_98 : decode code 98 = .ok (.bipush 6, 2) := by decide +kernel
theorem d417_100 : decode code 100 = .ok (.irem, 1) := by decide +kernel
theorem d417_101 : decode code 101 = .ok (.iconst 4, 1) := by decide +kernel
theorem d417_102 : decode code 102 = .ok (.if_icmp .ne 10, 3) := by decide +kernel
theorem d417_105 : decode code 105 = .ok (.aload_n 1, 1) := by decide +kernel
theorem d417_106 : decode code 106 = .ok (.invokestatic 290, 3) := by decide +kernel
theorem d417_109 : decode code 109 = .ok (.ifCond .eq 26, 3) := by decide +kernel
theorem d417_112 : decode code 112 = .ok (.iload 5, 2) := by decide +kernel
theorem d417_114 : decode code 114 = .ok (.iconst 4, 1) := by decide +kernel
theorem d417_115 : decode code 115 = .ok (.irem, 1) := by decide +kernel
theorem d417_116 : decode code 116 = .ok (.iconst 3, 1) := by decide +kernel
theorem d417_117 : decode code 117 = .ok (.if_icmp .ne 14, 3) := by decide +kernel
theorem d417_120 : decode code 120 = .ok (.aload_n 1, 1) := by decide +kernel
theorem d417_121 : decode code 121 = .ok (.iload 7, 2) := by decide +kernel
theorem d417_123 : decode code 123 = .ok (.iconst 2, 1) := by decide +kernel
theorem d417_124 : decode code 124 = .ok (.ishr, 1) := by decide +kernel
theorem d417_125 : decode code 125 = .ok (.invokestatic 309, 3) := by decide +kernel
theorem k417_309_99 : xCa (xMo 417) 309 99 = some (0, 217, 2) := by decide +kernel
theorem d417_128 : decode code 128 = .ok (.ifCond .eq 7, 3) := by decide +kernel
theorem d417_131 : decode code 131 = .ok (.iconst 1, 1) := by decide +kernel
theorem d417_132 : decode code 132 = .ok (.goto 4, 3) := by decide +kernel
theorem d417_135 : decode code 135 = .ok (.iconst 0, 1) := by decide +kernel
theorem d417_136 : decode code 136 = .ok (.istore 4, 2) := by decide +kernel
theorem d417_138 : decode code 138 = .ok (.iload 4, 2) := by decide +kernel
theorem d417_140 : decode code 140 = .ok (.ifCond .eq 49, 3) := by decide +kernel
theorem d417_143 : decode code 143 = .ok (.aload_n 1, 1) := by decide +kernel
theorem d417_144 : decode code 144 = .ok (.invokestatic 302, 3) := by decide +kernel
theorem d417_147 : decode code 147 = .ok (.lload 8, 2) := by decide +kernel
theorem d417_149 : decode code 149 = .ok (.lcmp, 1) := by decide +kernel
theorem d417_150 : decode code 150 = .ok (.ifCond .eq 39, 3) := by decide +kernel
theorem d417_153 : decode code 153 = .ok (.iload 7, 2) := by decide +kernel
theorem d417_155 : decode code 155 = .ok (.bipush 8, 2) := by decide +kernel
theorem d417_157 : decode code 157 = .ok (.ishr, 1) := by decide +kernel
theorem d417_158 : decode code 158 = .ok (.iconst 4, 1) := by decide +kernel
theorem d417_159 : decode code 159 = .ok (.invokestatic 150, 3) := by decide +kernel
theorem k417_150_99 : xCa (xMo 417) 150 99 = some (0, 201, 2) := by decide +kernel
theorem d417_162 : decode code 162 = .ok (.ifCond .ne 27, 3) := by decide +kernel
theorem d417_165 : decode code 165 = .ok (.aload_n 1, 1) := by decide +kernel
theorem d417_166 : decode code 166 = .ok (.invokestatic 294, 3) := by decide +kernel
theorem d417_169 : decode code 169 = .ok (.ifCond .lt 17, 3) := by decide +kernel
theorem d417_172 : decode code 172 = .ok (.aload_n 1, 1) := by decide +kernel
theorem d417_173 : decode code 173 = .ok (.invokestatic 302, 3) := by decide +kernel
theorem d417_176 : decode code 176 = .ok (.lload 8, 2) := by decide +kernel
theorem d417_178 : decode code 178 = .ok (.lcmp, 1) := by decide +kernel
theorem d417_179 : decode code 179 = .ok (.ifCond .ne 7, 3) := by decide +kernel
theorem d417_182 : decode code 182 = .ok (.iconst 1, 1) := by decide +kernel
theorem d417_183 : decode code 183 = .ok (.goto 4, 3) := by decide +kernel
theorem d417_186 : decode code 186 = .ok (.iconst 0, 1) := by decide +kernel
theorem d417_187 : decode code 187 = .ok (.istore 4, 2) := by decide +kernel
theorem d417_189 : decode code 189 = .ok (.iload 4, 2) := by decide +kernel
theorem d417_191 : decode code 191 = .ok (.ifCond .eq 35, 3) := by decide +kernel
theorem d417_194 : decode code 194 = .ok (.iload 5, 2) := by decide +kernel
theorem d417_196 : decode code 196 = .ok (.bipush 10, 2) := by decide +kernel
theorem d417_198 : decode code 198 = .ok (.irem, 1) := by decide +kernel
theorem d417_199 : decode code 199 = .ok (.iconst 3, 1) := by decide +kernel
theorem d417_200 : decode code 200 = .ok (.if_icmp .ne 26, 3) := by decide +kernel
theorem d417_203 : decode code 203 = .ok (.aload_n 1, 1) := by decide +kernel
theorem d417_204 : decode code 204 = .ok (.invokevirtual 312, 3) := by decide +kernel
theorem k417_312_10 : xCa (xMo 417) 312 10 = some (1, 4, 0) := by decide +kernel
theorem n417_312 : xcn (xMo 417) 312 = some 0 := by decide +kernel
theorem d417_207 : decode code 207 = .ok (.aload_n 1, 1) := by decide +kernel
theorem d417_208 : decode code 208 = .ok (.invokevirtual 185, 3) := by decide +kernel
theorem k417_185_10 : xCa (xMo 417) 185 10 = some (1, 6, 0) := by decide +kernel
theorem n417_185 : xcn (xMo 417) 185 = some 0 := by decide +kernel
theorem d417_211 : decode code 211 = .ok (.if_icmp .ne 7, 3) := by decide +kernel
theorem d417_214 : decode code 214 = .ok (.iconst 1, 1) := by decide +kernel
theorem d417_215 : decode code 215 = .ok (.goto 4, 3) := by decide +kernel
theorem d417_218 : decode code 218 = .ok (.iconst 0, 1) := by decide +kernel
theorem d417_219 : decode code 219 = .ok (.istore 4, 2) := by decide +kernel
theorem d417_221 : decode code 221 = .ok (.aload_n 1, 1) := by decide +kernel
theorem d417_222 : decode code 222 = .ok (.invokestatic 302, 3) := by decide +kernel
theorem d417_225 : decode code 225 = .ok (.lstore_n 2, 1) := by decide +kernel
theorem d417_226 : decode code 226 = .ok (.iload 4, 2) := by decide +kernel
theorem d417_228 : decode code 228 = .ok (.ifCond .eq 40, 3) := by decide +kernel
theorem d417_231 : decode code 231 = .ok (.iload 5, 2) := by decide +kernel
theorem d417_233 : decode code 233 = .ok (.bipush 10, 2) := by decide +kernel
theorem d417_235 : decode code 235 = .ok (.irem, 1) := by decide +kernel
theorem d417_236 : decode code 236 = .ok (.bipush 8, 2) := by decide +kernel
theorem d417_238 : decode code 238 = .ok (.if_icmp .ne 30, 3) := by decide +kernel
theorem d417_241 : decode code 241 = .ok (.aload_n 1, 1) := by decide +kernel
theorem d417_242 : decode code 242 = .ok (.invokestatic 296, 3) := by decide +kernel
theorem d417_245 : decode code 245 = .ok (.aload_n 1, 1) := by decide +kernel
theorem d417_246 : decode code 246 = .ok (.invokevirtual 185, 3) := by decide +kernel
theorem d417_249 : decode code 249 = .ok (.if_icmp .ne 16, 3) := by decide +kernel
theorem d417_252 : decode code 252 = .ok (.aload_n 1, 1) := by decide +kernel
theorem d417_253 : decode code 253 = .ok (.invokestatic 302, 3) := by decide +kernel
theorem d417_256 : decode code 256 = .ok (.lload_n 2, 1) := by decide +kernel
theorem d417_257 : decode code 257 = .ok (.lcmp, 1) := by decide +kernel
theorem d417_258 : decode code 258 = .ok (.ifCond .ne 7, 3) := by decide +kernel
theorem d417_261 : decode code 261 = .ok (.iconst 1, 1) := by decide +kernel
theorem d417_262 : decode code 262 = .ok (.goto 4, 3) := by decide +kernel
theorem d417_265 : decode code 265 = .ok (.iconst 0, 1) := by decide +kernel
theorem d417_266 : decode code 266 = .ok (.istore 4, 2) := by decide +kernel
theorem d417_268 : decode code 268 = .ok (.iload 4, 2) := by decide +kernel
theorem d417_270 : decode code 270 = .ok (.ifCond .eq 44, 3) := by decide +kernel
theorem d417_273 : decode code 273 = .ok (.iload 5, 2) := by decide +kernel
theorem d417_275 : decode code 275 = .ok (.bipush 11, 2) := by decide +kernel
theorem d417_277 : decode code 277 = .ok (.irem, 1) := by decide +kernel
theorem d417_278 : decode code 278 = .ok (.bipush 10, 2) := by decide +kernel
theorem d417_280 : decode code 280 = .ok (.if_icmp .ne 34, 3) := by decide +kernel
theorem d417_283 : decode code 283 = .ok (.aload_n 1, 1) := by decide +kernel
theorem d417_284 : decode code 284 = .ok (.invokestatic 294, 3) := by decide +kernel
theorem d417_287 : decode code 287 = .ok (.istore 10, 2) := by decide +kernel
theorem d417_289 : decode code 289 = .ok (.iload 10, 2) := by decide +kernel
theorem d417_291 : decode code 291 = .ok (.ldc 20, 2) := by decide +kernel
theorem d417_293 : decode code 293 = .ok (.if_icmp .eq 14, 3) := by decide +kernel
theorem d417_296 : decode code 296 = .ok (.iload 10, 2) := by decide +kernel
theorem d417_298 : decode code 298 = .ok (.ifCond .lt 13, 3) := by decide +kernel
theorem d417_301 : decode code 301 = .ok (.iload 10, 2) := by decide +kernel
theorem d417_303 : decode code 303 = .ok (.iconst 4, 1) := by decide +kernel
theorem d417_304 : decode code 304 = .ok (.if_icmp .ge 7, 3) := by decide +kernel
theorem d417_307 : decode code 307 = .ok (.iconst 1, 1) := by decide +kernel
theorem d417_308 : decode code 308 = .ok (.goto 4, 3) := by decide +kernel
theorem d417_311 : decode code 311 = .ok (.iconst 0, 1) := by decide +kernel
theorem d417_312 : decode code 312 = .ok (.istore 4, 2) := by decide +kernel
theorem d417_314 : decode code 314 = .ok (.iinc 5 1, 3) := by decide +kernel
theorem d417_317 : decode code 317 = .ok (.goto (-272), 3) := by decide +kernel
theorem d417_320 : decode code 320 = .ok (.iload 4, 2) := by decide +kernel
theorem d417_322 : decode code 322 = .ok (.ifCond .eq 14, 3) := by decide +kernel
theorem d417_325 : decode code 325 = .ok (.aload_n 1, 1) := by decide +kernel
theorem d417_326 : decode code 326 = .ok (.invokestatic 290, 3) := by decide +kernel
theorem d417_329 : decode code 329 = .ok (.ifCond .eq 7, 3) := by decide +kernel
theorem d417_332 : decode code 332 = .ok (.iconst 1, 1) := by decide +kernel
theorem d417_333 : decode code 333 = .ok (.goto 4, 3) := by decide +kernel
theorem d417_336 : decode code 336 = .ok (.iconst 0, 1) := by decide +kernel
theorem d417_337 : decode code 337 = .ok (.ireturn, 1) := by decide +kernel

end
