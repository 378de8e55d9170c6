/-! facts of methods, written by wip/whole/mkfacts.py -/
section
set_option maxRecDepth 100000 in
theorem q178 : xMc 178 = method_54_code := rfl
theorem m178 : xMl 178 = 16 ∧ xMret 178 = (some FieldType.boolean) ∧ xMh 178 = [] := by decide +kernel
theorem e178 {X : xX} {d : Nat} {w : xH} {Q : xO → xH → Prop} (x0 : Nat) (x1 : Int32) (x2 : Int32) : Cw X d 178 [.ref x0, .int x1, .int x2] w Q = Wx X d 178 0 [some (.ref x0), some (.int x1), some (.int x2), none, none, none, none, none, none, none, none, none, none, none, none, none] [] w Q := by
  unfold Cw
  rw [m178.1]
  rfl
theorem d178_0 : decode method_54_code 0 = .ok (.iload_n 1, 1) := by decide +kernel
theorem d178_1 : decode method_54_code 1 = .ok (.bipush 32, 2) := by decide +kernel
theorem d178_3 : decode method_54_code 3 = .ok (.invokestatic 150, 3) := by decide +kernel
theorem k178_150_99 : xCa (xMo 178) 150 99 = some (0, 201, 2) := by decide +kernel
theorem d178_6 : decode method_54_code 6 = .ok (.istore_n 3, 1) := by decide +kernel
theorem d178_7 : decode method_54_code 7 = .ok (.iload_n 1, 1) := by decide +kernel
theorem d178_8 : decode method_54_code 8 = .ok (.bipush 9, 2) := by decide +kernel
theorem d178_10 : decode method_54_code 10 = .ok (.ishr, 1) := by decide +kernel
theorem d178_11 : decode method_54_code 11 = .ok (.bipush 14, 2) := by decide +kernel
theorem d178_13 : decode method_54_code 13 = .ok (.invokestatic 150, 3) := by decide +kernel
theorem d178_16 : decode method_54_code 16 = .ok (.ifCond .ne 9, 3) := by decide +kernel
theorem d178_19 : decode method_54_code 19 = .ok (.sipush 200, 3) := by decide +kernel
theorem d178_22 : decode method_54_code 22 = .ok (.goto 9, 3) := by decide +kernel
theorem d178_25 : decode method_54_code 25 = .ok (.iload_n 1, 1) := by decide +kernel
theorem d178_26 : decode method_54_code 26 = .ok (.iconst 5, 1) := by decide +kernel
theorem d178_27 : decode method_54_code 27 = .ok (.ishr, 1) := by decide +kernel
theorem d178_28 : decode method_54_code 28 = .ok (.invokestatic 239, 3) := by decide +kernel
theorem k178_239_99 : xCa (xMo 178) 239 99 = some (0, 203, 1) := by decide +kernel
theorem d178_31 : decode method_54_code 31 = .ok (.istore 4, 2) := by decide +kernel
theorem d178_33 : decode method_54_code 33 = .ok (.aload_n 0, 1) := by decide +kernel
theorem d178_34 : decode method_54_code 34 = .ok (.invokevirtual 182, 3) := by decide +kernel
theorem k178_182_10 : xCa (xMo 178) 182 10 = some (1, 10, 0) := by decide +kernel
theorem n178_182 : xcn (xMo 178) 182 = some 0 := by decide +kernel
theorem d178_37 : decode method_54_code 37 = .ok (.istore 5, 2) := by decide +kernel
theorem d178_39 : decode method_54_code 39 = .ok (.iload_n 3, 1) := by decide +kernel
theorem d178_40 : decode method_54_code 40 = .ok (.bipush 15, 2) := by decide +kernel
theorem d178_42 : decode method_54_code 42 = .ok (.if_icmp .ge 15, 3) := by decide +kernel
theorem d178_45 : decode method_54_code 45 = .ok (.aload_n 0, 1) := by decide +kernel
theorem d178_46 : decode method_54_code 46 = .ok (.iload_n 1, 1) := by decide +kernel
theorem d178_47 : decode method_54_code 47 = .ok (.bipush 6, 2) := by decide +kernel
theorem d178_49 : decode method_54_code 49 = .ok (.ishr, 1) := by decide +kernel
theorem d178_50 : decode method_54_code 50 = .ok (.iload_n 2, 1) := by decide +kernel
theorem d178_51 : decode method_54_code 51 = .ok (.iload 4, 2) := by decide +kernel
theorem d178_53 : decode method_54_code 53 = .ok (.invokestatic 262, 3) := by decide +kernel
theorem k178_262_99 : xCa (xMo 178) 262 99 = some (0, 189, 4) := by decide +kernel
theorem d178_56 : decode method_54_code 56 = .ok (.ireturn, 1) := by decide +kernel
theorem d178_57 : decode method_54_code 57 = .ok (.iload_n 3, 1) := by decide +kernel
theorem d178_58 : decode method_54_code 58 = .ok (.bipush 20, 2) := by decide +kernel
theorem d178_60 : decode method_54_code 60 = .ok (.if_icmp .ge 175, 3) := by decide +kernel
theorem d178_63 : decode method_54_code 63 = .ok (.iload_n 2, 1) := by decide +kernel
theorem d178_64 : decode method_54_code 64 = .ok (.iload_n 2, 1) := by decide +kernel
theorem d178_65 : decode method_54_code 65 = .ok (.bipush 20, 2) := by decide +kernel
theorem d178_67 : decode method_54_code 67 = .ok (.ishr, 1) := by decide +kernel
theorem d178_68 : decode method_54_code 68 = .ok (.iconst 5, 1) := by decide +kernel
theorem d178_69 : decode method_54_code 69 = .ok (.invokestatic 150, 3) := by decide +kernel
theorem d178_72 : decode method_54_code 72 = .ok (.ifCond .ne 9, 3) := by decide +kernel
theorem d178_75 : decode method_54_code 75 = .ok (.ldc_w 266, 3) := by decide +kernel
theorem d178_78 : decode method_54_code 78 = .ok (.goto 5, 3) := by decide +kernel
theorem d178_81 : decode method_54_code 81 = .ok (.bipush 20, 2) := by decide +kernel
theorem d178_83 : decode method_54_code 83 = .ok (.invokestatic 150, 3) := by decide +kernel
theorem d178_86 : decode method_54_code 86 = .ok (.iload_n 2, 1) := by decide +kernel
theorem d178_87 : decode method_54_code 87 = .ok (.bipush 21, 2) := by decide +kernel
theorem d178_89 : decode method_54_code 89 = .ok (.ishr, 1) := by decide +kernel
theorem d178_90 : decode method_54_code 90 = .ok (.bipush 9, 2) := by decide +kernel
theorem d178_92 : decode method_54_code 92 = .ok (.invokestatic 150, 3) := by decide +kernel
theorem d178_95 : decode method_54_code 95 = .ok (.ifCond .ne 7, 3) := by decide +kernel
theorem d178_98 : decode method_54_code 98 = .ok (.iconst 3, 1) := by decide +kernel
theorem d178_99 : decode method_54_code 99 = .ok (.goto 4, 3) := by decide +kernel
theorem d178_102 : decode method_54_code 102 = .ok (.iconst 0, 1) := by decide +kernel
theorem d178_103 : decode method_54_code 103 = .ok (.isub, 1) := by decide +kernel
theorem d178_104 : decode method_54_code 104 = .ok (.istore 6, 2) := by decide +kernel
theorem d178_106 : decode method_54_code 106 = .ok (.iload 4, 2) := by decide +kernel
theorem d178_108 : decode method_54_code 108 = .ok (.sipush 200, 3) := by decide +kernel
theorem d178_111 : decode method_54_code 111 = .ok (.if_icmp .eq 11, 3) := by decide +kernel
theorem d178_114 : decode method_54_code 114 = .ok (.iload 6, 2) := by decide +kernel
theorem d178_116 : decode method_54_code 116 = .ok (.ldc_w 267, 3) := by decide +kernel
theorem d178_119 : decode method_54_code 119 = .ok (.if_icmp .le 7, 3) := by decide +kernel
theorem d178_122 : decode method_54_code 122 = .ok (.iconst 1, 1) := by decide +kernel
theorem d178_123 : decode method_54_code 123 = .ok (.goto 4, 3) := by decide +kernel
theorem d178_126 : decode method_54_code 126 = .ok (.iconst 0, 1) := by decide +kernel
theorem d178_127 : decode method_54_code 127 = .ok (.istore 7, 2) := by decide +kernel
theorem d178_129 : decode method_54_code 129 = .ok (.aload_n 0, 1) := by decide +kernel
theorem d178_130 : decode method_54_code 130 = .ok (.iload 4, 2) := by decide +kernel
theorem d178_132 : decode method_54_code 132 = .ok (.iload 6, 2) := by decide +kernel
theorem d178_134 : decode method_54_code 134 = .ok (.invokestatic 268, 3) := by decide +kernel
theorem k178_268_99 : xCa (xMo 178) 268 99 = some (0, 210, 3) := by decide +kernel
theorem d178_137 : decode method_54_code 137 = .ok (.istore 8, 2) := by decide +kernel
theorem d178_139 : decode method_54_code 139 = .ok (.iload 7, 2) := by decide +kernel
theorem d178_141 : decode method_54_code 141 = .ok (.ifCond .eq 27, 3) := by decide +kernel
theorem d178_144 : decode method_54_code 144 = .ok (.iload 8, 2) := by decide +kernel
theorem d178_146 : decode method_54_code 146 = .ok (.ldc 17, 2) := by decide +kernel
theorem d178_148 : decode method_54_code 148 = .ok (.if_icmp .ne 16, 3) := by decide +kernel
theorem d178_151 : decode method_54_code 151 = .ok (.aload_n 0, 1) := by decide +kernel
theorem d178_152 : decode method_54_code 152 = .ok (.invokevirtual 182, 3) := by decide +kernel
theorem d178_155 : decode method_54_code 155 = .ok (.iload 5, 2) := by decide +kernel
theorem d178_157 : decode method_54_code 157 = .ok (.if_icmp .ne 7, 3) := by decide +kernel
theorem d178_160 : decode method_54_code 160 = .ok (.iconst 1, 1) := by decide +kernel
theorem d178_161 : decode method_54_code 161 = .ok (.goto 73, 3) := by decide +kernel
theorem d178_164 : decode method_54_code 164 = .ok (.iconst 0, 1) := by decide +kernel
theorem d178_165 : decode method_54_code 165 = .ok (.goto 69, 3) := by decide +kernel
theorem d178_168 : decode method_54_code 168 = .ok (.iload 8, 2) := by decide +kernel
theorem d178_170 : decode method_54_code 170 = .ok (.aload_n 0, 1) := by decide +kernel
theorem d178_171 : decode method_54_code 171 = .ok (.iload 4, 2) := by decide +kernel
theorem d178_173 : decode method_54_code 173 = .ok (.invokevirtual 128, 3) := by decide +kernel
theorem k178_128_10 : xCa (xMo 178) 128 10 = some (1, 50, 1) := by decide +kernel
theorem n178_128 : xcn (xMo 178) 128 = some 1 := by decide +kernel
theorem d178_176 : decode method_54_code 176 = .ok (.if_icmp .ne 57, 3) := by decide +kernel
theorem d178_179 : decode method_54_code 179 = .ok (.aload_n 0, 1) := by decide +kernel
theorem d178_180 : decode method_54_code 180 = .ok (.invokevirtual 179, 3) := by decide +kernel
theorem k178_179_10 : xCa (xMo 178) 179 10 = some (1, 9, 0) := by decide +kernel
theorem n178_179 : xcn (xMo 178) 179 = some 0 := by decide +kernel
theorem d178_183 : decode method_54_code 183 = .ok (.iload 8, 2) := by decide +kernel
theorem d178_185 : decode method_54_code 185 = .ok (.if_icmp .ne 48, 3) := by decide +kernel
theorem d178_188 : decode method_54_code 188 = .ok (.aload_n 0, 1) := by decide +kernel
theorem d178_189 : decode method_54_code 189 = .ok (.invokevirtual 182, 3) := by decide +kernel
theorem d178_192 : decode method_54_code 192 = .ok (.iload 5, 2) := by decide +kernel
theorem d178_194 : decode method_54_code 194 = .ok (.iload 8, 2) := by decide +kernel
theorem d178_196 : decode method_54_code 196 = .ok (.iadd, 1) := by decide +kernel
theorem d178_197 : decode method_54_code 197 = .ok (.if_icmp .ne 36, 3) := by decide +kernel
theorem d178_200 : decode method_54_code 200 = .ok (.aload_n 0, 1) := by decide +kernel
theorem d178_201 : decode method_54_code 201 = .ok (.iload 4, 2) := by decide +kernel
theorem d178_203 : decode method_54_code 203 = .ok (.invokevirtual 85, 3) := by decide +kernel
theorem k178_85_10 : xCa (xMo 178) 85 10 = some (1, 35, 1) := by decide +kernel
theorem n178_85 : xcn (xMo 178) 85 = some 1 := by decide +kernel
theorem d178_206 : decode method_54_code 206 = .ok (.iload 6, 2) := by decide +kernel
theorem d178_208 : decode method_54_code 208 = .ok (.if_icmp .ne 25, 3) := by decide +kernel
theorem d178_211 : decode method_54_code 211 = .ok (.aload_n 0, 1) := by decide +kernel
theorem d178_212 : decode method_54_code 212 = .ok (.iload 4, 2) := by decide +kernel
theorem d178_214 : decode method_54_code 214 = .ok (.invokevirtual 95, 3) := by decide +kernel
theorem k178_95_10 : xCa (xMo 178) 95 10 = some (1, 32, 1) := by decide +kernel
theorem n178_95 : xcn (xMo 178) 95 = some 1 := by decide +kernel
theorem d178_217 : decode method_54_code 217 = .ok (.ifCond .ne 16, 3) := by decide +kernel
theorem d178_220 : decode method_54_code 220 = .ok (.aload_n 0, 1) := by decide +kernel
theorem d178_221 : decode method_54_code 221 = .ok (.iload 4, 2) := by decide +kernel
theorem d178_223 : decode method_54_code 223 = .ok (.invokevirtual 91, 3) := by decide +kernel
theorem k178_91_10 : xCa (xMo 178) 91 10 = some (1, 31, 1) := by decide +kernel
theorem n178_91 : xcn (xMo 178) 91 = some 1 := by decide +kernel
theorem d178_226 : decode method_54_code 226 = .ok (.ifCond .ne 7, 3) := by decide +kernel
theorem d178_229 : decode method_54_code 229 = .ok (.iconst 1, 1) := by decide +kernel
theorem d178_230 : decode method_54_code 230 = .ok (.goto 4, 3) := by decide +kernel
theorem d178_233 : decode method_54_code 233 = .ok (.iconst 0, 1) := by decide +kernel
theorem d178_234 : decode method_54_code 234 = .ok (.ireturn, 1) := by decide +kernel
theorem d178_235 : decode method_54_code 235 = .ok (.iload_n 3, 1) := by decide +kernel
theorem d178_236 : decode method_54_code 236 = .ok (.bipush 20, 2) := by decide +kernel
theorem d178_238 : decode method_54_code 238 = .ok (.if_icmp .ne 122, 3) := by decide +kernel
theorem d178_241 : decode method_54_code 241 = .ok (.aload_n 0, 1) := by decide +kernel
theorem d178_242 : decode method_54_code 242 = .ok (.invokevirtual 185, 3) := by decide +kernel
theorem k178_185_10 : xCa (xMo 178) 185 10 = some (1, 6, 0) := by decide +kernel
theorem n178_185 : xcn (xMo 178) 185 = some 0 := by decide +kernel
theorem d178_245 : decode method_54_code 245 = .ok (.istore 6, 2) := by decide +kernel
theorem d178_247 : decode method_54_code 247 = .ok (.iload 4, 2) := by decide +kernel
theorem d178_249 : decode method_54_code 249 = .ok (.sipush 200, 3) := by decide +kernel
theorem d178_252 : decode method_54_code 252 = .ok (.if_icmp .ge 16, 3) := by decide +kernel
theorem d178_255 : decode method_54_code 255 = .ok (.aload_n 0, 1) := by decide +kernel
theorem d178_256 : decode method_54_code 256 = .ok (.iload 4, 2) := by decide +kernel
theorem d178_258 : decode method_54_code 258 = .ok (.invokevirtual 91, 3) := by decide +kernel
theorem d178_261 : decode method_54_code 261 = .ok (.ifCond .ne 7, 3) := by decide +kernel
theorem d178_264 : decode method_54_code 264 = .ok (.iconst 1, 1) := by decide +kernel
theorem d178_265 : decode method_54_code 265 = .ok (.goto 4, 3) := by decide +kernel
theorem d178_268 : decode method_54_code 268 = .ok (.iconst 0, 1) := by decide +kernel
theorem d178_269 : decode method_54_code 269 = .ok (.istore 7, 2) := by decide +kernel
theorem d178_271 : decode method_54_code 271 = .ok (.aload_n 0, 1) := by decide +kernel
theorem d178_272 : decode method_54_code 272 = .ok (.iload 4, 2) := by decide +kernel
theorem d178_274 : decode method_54_code 274 = .ok (.invokestatic 270, 3) := by decide +kernel
theorem k178_270_99 : xCa (xMo 178) 270 99 = some (0, 180, 2) := by decide +kernel
theorem d178_277 : decode method_54_code 277 = .ok (.istore 8, 2) := by decide +kernel
theorem d178_279 : decode method_54_code 279 = .ok (.iload 4, 2) := by decide +kernel
theorem d178_281 : decode method_54_code 281 = .ok (.sipush 200, 3) := by decide +kernel
theorem d178_284 : decode method_54_code 284 = .ok (.if_icmp .ne 18, 3) := by decide +kernel
theorem d178_287 : decode method_54_code 287 = .ok (.iload 8, 2) := by decide +kernel
theorem d178_289 : decode method_54_code 289 = .ok (.ldc 17, 2) := by decide +kernel
theorem d178_291 : decode method_54_code 291 = .ok (.if_icmp .ne 7, 3) := by decide +kernel
theorem d178_294 : decode method_54_code 294 = .ok (.iconst 1, 1) := by decide +kernel
theorem d178_295 : decode method_54_code 295 = .ok (.goto 64, 3) := by decide +kernel
theorem d178_298 : decode method_54_code 298 = .ok (.iconst 0, 1) := by decide +kernel
theorem d178_299 : decode method_54_code 299 = .ok (.goto 60, 3) := by decide +kernel
theorem d178_302 : decode method_54_code 302 = .ok (.iload 8, 2) := by decide +kernel
theorem d178_304 : decode method_54_code 304 = .ok (.aload_n 0, 1) := by decide +kernel
theorem d178_305 : decode method_54_code 305 = .ok (.iload 4, 2) := by decide +kernel
theorem d178_307 : decode method_54_code 307 = .ok (.invokevirtual 128, 3) := by decide +kernel
theorem d178_310 : decode method_54_code 310 = .ok (.if_icmp .ne 48, 3) := by decide +kernel
theorem d178_313 : decode method_54_code 313 = .ok (.aload_n 0, 1) := by decide +kernel
theorem d178_314 : decode method_54_code 314 = .ok (.invokevirtual 182, 3) := by decide +kernel
theorem d178_317 : decode method_54_code 317 = .ok (.iload 5, 2) := by decide +kernel
theorem d178_319 : decode method_54_code 319 = .ok (.iload 8, 2) := by decide +kernel
theorem d178_321 : decode method_54_code 321 = .ok (.iadd, 1) := by decide +kernel
theorem d178_322 : decode method_54_code 322 = .ok (.if_icmp .ne 36, 3) := by decide +kernel
theorem d178_325 : decode method_54_code 325 = .ok (.aload_n 0, 1) := by decide +kernel
theorem d178_326 : decode method_54_code 326 = .ok (.iload 4, 2) := by decide +kernel
theorem d178_328 : decode method_54_code 328 = .ok (.invokevirtual 91, 3) := by decide +kernel
theorem d178_331 : decode method_54_code 331 = .ok (.ifCond .eq 27, 3) := by decide +kernel
theorem d178_334 : decode method_54_code 334 = .ok (.aload_n 0, 1) := by decide +kernel
theorem d178_335 : decode method_54_code 335 = .ok (.invokevirtual 185, 3) := by decide +kernel
theorem d178_338 : decode method_54_code 338 = .ok (.iload 6, 2) := by decide +kernel
theorem d178_340 : decode method_54_code 340 = .ok (.iload 7, 2) := by decide +kernel
theorem d178_342 : decode method_54_code 342 = .ok (.ifCond .eq 7, 3) := by decide +kernel
theorem d178_345 : decode method_54_code 345 = .ok (.iconst 1, 1) := by decide +kernel
theorem d178_346 : decode method_54_code 346 = .ok (.goto 4, 3) := by decide +kernel
theorem d178_349 : decode method_54_code 349 = .ok (.iconst 0, 1) := by decide +kernel
theorem d178_350 : decode method_54_code 350 = .ok (.isub, 1) := by decide +kernel
theorem d178_351 : decode method_54_code 351 = .ok (.if_icmp .ne 7, 3) := by decide +kernel
theorem d178_354 : decode method_54_code 354 = .ok (.iconst 1, 1) := by decide +kernel
theorem d178_355 : decode method_54_code 355 = .ok (.goto 4, 3) := by decide +kernel
theorem d178_358 : decode method_54_code 358 = .ok (.iconst 0, 1) := by decide +kernel
theorem d178_359 : decode method_54_code 359 = .ok (.ireturn, 1) := by decide +kernel
theorem d178_360 : decode method_54_code 360 = .ok (.iload_n 3, 1) := by decide +kernel
theorem d178_361 : decode method_54_code 361 = .ok (.bipush 24, 2) := by decide +kernel
theorem d178_363 : decode method_54_code 363 = .ok (.if_icmp .ge 292, 3) := by decide +kernel
theorem d178_366 : decode method_54_code 366 = .ok (.iload_n 2, 1) := by decide +kernel
theorem d178_367 : decode method_54_code 367 = .ok (.iconst 3, 1) := by decide +kernel
theorem d178_368 : decode method_54_code 368 = .ok (.invokestatic 150, 3) := by decide +kernel
theorem d178_371 : decode method_54_code 371 = .ok (.istore 6, 2) := by decide +kernel
theorem d178_373 : decode method_54_code 373 = .ok (.iload_n 2, 1) := by decide +kernel
theorem d178_374 : decode method_54_code 374 = .ok (.iconst 2, 1) := by decide +kernel
theorem d178_375 : decode method_54_code 375 = .ok (.ishr, 1) := by decide +kernel
theorem d178_376 : decode method_54_code 376 = .ok (.iconst 3, 1) := by decide +kernel
theorem d178_377 : decode method_54_code 377 = .ok (.invokestatic 150, 3) := by decide +kernel
theorem d178_380 : decode method_54_code 380 = .ok (.istore 7, 2) := by decide +kernel
theorem d178_382 : decode method_54_code 382 = .ok (.iload_n 2, 1) := by decide +kernel
theorem d178_383 : decode method_54_code 383 = .ok (.iconst 4, 1) := by decide +kernel
theorem d178_384 : decode method_54_code 384 = .ok (.ishr, 1) := by decide +kernel
theorem d178_385 : decode method_54_code 385 = .ok (.invokestatic 239, 3) := by decide +kernel
theorem d178_388 : decode method_54_code 388 = .ok (.istore 8, 2) := by decide +kernel
theorem d178_390 : decode method_54_code 390 = .ok (.iload_n 1, 1) := by decide +kernel
theorem d178_391 : decode method_54_code 391 = .ok (.bipush 11, 2) := by decide +kernel
theorem d178_393 : decode method_54_code 393 = .ok (.ishr, 1) := by decide +kernel
theorem d178_394 : decode method_54_code 394 = .ok (.invokestatic 239, 3) := by decide +kernel
theorem d178_397 : decode method_54_code 397 = .ok (.istore 9, 2) := by decide +kernel
theorem d178_399 : decode method_54_code 399 = .ok (.iload 8, 2) := by decide +kernel
theorem d178_401 : decode method_54_code 401 = .ok (.bipush 10, 2) := by decide +kernel
theorem d178_403 : decode method_54_code 403 = .ok (.irem, 1) := by decide +kernel
theorem d178_404 : decode method_54_code 404 = .ok (.iload 6, 2) := by decide +kernel
theorem d178_406 : decode method_54_code 406 = .ok (.iadd, 1) := by decide +kernel
theorem d178_407 : decode method_54_code 407 = .ok (.bipush 10, 2) := by decide +kernel
theorem d178_409 : decode method_54_code 409 = .ok (.if_icmp .ge 20, 3) := by decide +kernel
theorem d178_412 : decode method_54_code 412 = .ok (.iload 8, 2) := by decide +kernel
theorem d178_414 : decode method_54_code 414 = .ok (.bipush 10, 2) := by decide +kernel
theorem d178_416 : decode method_54_code 416 = .ok (.idiv, 1) := by decide +kernel
theorem d178_417 : decode method_54_code 417 = .ok (.iload 7, 2) := by decide +kernel
theorem d178_419 : decode method_54_code 419 = .ok (.iadd, 1) := by decide +kernel
theorem d178_420 : decode method_54_code 420 = .ok (.bipush 20, 2) := by decide +kernel
theorem d178_422 : decode method_54_code 422 = .ok (.if_icmp .ge 7, 3) := by decide +kernel
theorem d178_425 : decode method_54_code 425 = .ok (.iconst 1, 1) := by decide +kernel
theorem d178_426 : decode method_54_code 426 = .ok (.goto 4, 3) := by decide +kernel
theorem d178_429 : decode method_54_code 429 = .ok (.iconst 0, 1) := by decide +kernel
theorem d178_430 : decode method_54_code 430 = .ok (.istore 10, 2) := by decide +kernel
theorem d178_432 : decode method_54_code 432 = .ok (.iload 9, 2) := by decide +kernel
theorem d178_434 : decode method_54_code 434 = .ok (.bipush 10, 2) := by decide +kernel
theorem d178_436 : decode method_54_code 436 = .ok (.irem, 1) := by decide +kernel
theorem d178_437 : decode method_54_code 437 = .ok (.iload 6, 2) := by decide +kernel
theorem d178_439 : decode method_54_code 439 = .ok (.iadd, 1) := by decide +kernel
theorem d178_440 : decode method_54_code 440 = .ok (.bipush 10, 2) := by decide +kernel
theorem d178_442 : decode method_54_code 442 = .ok (.if_icmp .ge 20, 3) := by decide +kernel
theorem d178_445 : decode method_54_code 445 = .ok (.iload 9, 2) := by decide +kernel
theorem d178_447 : decode method_54_code 447 = .ok (.bipush 10, 2) := by decide +kernel
theorem d178_449 : decode method_54_code 449 = .ok (.idiv, 1) := by decide +kernel
theorem d178_450 : decode method_54_code 450 = .ok (.iload 7, 2) := by decide +kernel
theorem d178_452 : decode method_54_code 452 = .ok (.iadd, 1) := by decide +kernel
theorem d178_453 : decode method_54_code 453 = .ok (.bipush 20, 2) := by decide +kernel
theorem d178_455 : decode method_54_code 455 = .ok (.if_icmp .ge 7, 3) := by decide +kernel
theorem d178_458 : decode method_54_code 458 = .ok (.iconst 1, 1) := by decide +kernel
theorem d178_459 : decode method_54_code 459 = .ok (.goto 4, 3) := by decide +kernel
theorem d178_462 : decode method_54_code 462 = .ok (.iconst 0, 1) := by decide +kernel
theorem d178_463 : decode method_54_code 463 = .ok (.istore 11, 2) := by decide +kernel
theorem d178_465 : decode method_54_code 465 = .ok (.iload 10, 2) := by decide +kernel
theorem d178_467 : decode method_54_code 467 = .ok (.ifCond .ne 38, 3) := by decide +kernel
theorem d178_470 : decode method_54_code 470 = .ok (.aload_n 0, 1) := by decide +kernel
theorem d178_471 : decode method_54_code 471 = .ok (.iload 8, 2) := by decide +kernel
theorem d178_473 : decode method_54_code 473 = .ok (.sipush 200, 3) := by decide +kernel
theorem d178_476 : decode method_54_code 476 = .ok (.iload 9, 2) := by decide +kernel
theorem d178_478 : decode method_54_code 478 = .ok (.invokestatic 272, 3) := by decide +kernel
theorem k178_272_99 : xCa (xMo 178) 272 99 = some (0, 182, 4) := by decide +kernel
theorem d178_481 : decode method_54_code 481 = .ok (.ldc 17, 2) := by decide +kernel
theorem d178_483 : decode method_54_code 483 = .ok (.if_icmp .ne 20, 3) := by decide +kernel
theorem d178_486 : decode method_54_code 486 = .ok (.aload_n 0, 1) := by decide +kernel
theorem d178_487 : decode method_54_code 487 = .ok (.bipush 11, 2) := by decide +kernel
theorem d178_489 : decode method_54_code 489 = .ok (.iconst 0, 1) := by decide +kernel
theorem d178_490 : decode method_54_code 490 = .ok (.iconst 0, 1) := by decide +kernel
theorem d178_491 : decode method_54_code 491 = .ok (.invokestatic 272, 3) := by decide +kernel
theorem d178_494 : decode method_54_code 494 = .ok (.ldc 17, 2) := by decide +kernel
theorem d178_496 : decode method_54_code 496 = .ok (.if_icmp .ne 7, 3) := by decide +kernel
theorem d178_499 : decode method_54_code 499 = .ok (.iconst 1, 1) := by decide +kernel
theorem d178_500 : decode method_54_code 500 = .ok (.goto 4, 3) := by decide +kernel
theorem d178_503 : decode method_54_code 503 = .ok (.iconst 0, 1) := by decide +kernel
theorem d178_504 : decode method_54_code 504 = .ok (.ireturn, 1) := by decide +kernel
theorem d178_505 : decode method_54_code 505 = .ok (.aload_n 0, 1) := by decide +kernel
theorem d178_506 : decode method_54_code 506 = .ok (.iload 8, 2) := by decide +kernel
theorem d178_508 : decode method_54_code 508 = .ok (.invokestatic 188, 3) := by decide +kernel
theorem k178_188_99 : xCa (xMo 178) 188 99 = some (0, 213, 2) := by decide +kernel
theorem d178_511 : decode method_54_code 511 = .ok (.istore 12, 2) := by decide +kernel
theorem d178_513 : decode method_54_code 513 = .ok (.aload_n 0, 1) := by decide +kernel
theorem d178_514 : decode method_54_code 514 = .ok (.iload 8, 2) := by decide +kernel
theorem d178_516 : decode method_54_code 516 = .ok (.invokevirtual 95, 3) := by decide +kernel
theorem d178_519 : decode method_54_code 519 = .ok (.istore 13, 2) := by decide +kernel
theorem d178_521 : decode method_54_code 521 = .ok (.aload_n 0, 1) := by decide +kernel
theorem d178_522 : decode method_54_code 522 = .ok (.iload 8, 2) := by decide +kernel
theorem d178_524 : decode method_54_code 524 = .ok (.invokevirtual 119, 3) := by decide +kernel
theorem k178_119_10 : xCa (xMo 178) 119 10 = some (1, 43, 1) := by decide +kernel
theorem n178_119 : xcn (xMo 178) 119 = some 1 := by decide +kernel
theorem d178_527 : decode method_54_code 527 = .ok (.istore 14, 2) := by decide +kernel
theorem d178_529 : decode method_54_code 529 = .ok (.aload_n 0, 1) := by decide +kernel
theorem d178_530 : decode method_54_code 530 = .ok (.iload 8, 2) := by decide +kernel
theorem d178_532 : decode method_54_code 532 = .ok (.iload 8, 2) := by decide +kernel
theorem d178_534 : decode method_54_code 534 = .ok (.iload 6, 2) := by decide +kernel
theorem d178_536 : decode method_54_code 536 = .ok (.iadd, 1) := by decide +kernel
theorem d178_537 : decode method_54_code 537 = .ok (.bipush 10, 2) := by decide +kernel
theorem d178_539 : decode method_54_code 539 = .ok (.iload 7, 2) := by decide +kernel
theorem d178_541 : decode method_54_code 541 = .ok (.imul, 1) := by decide +kernel
theorem d178_542 : decode method_54_code 542 = .ok (.iadd, 1) := by decide +kernel
theorem d178_543 : decode method_54_code 543 = .ok (.iload 9, 2) := by decide +kernel
theorem d178_545 : decode method_54_code 545 = .ok (.invokestatic 272, 3) := by decide +kernel
theorem d178_548 : decode method_54_code 548 = .ok (.istore 15, 2) := by decide +kernel
theorem d178_550 : decode method_54_code 550 = .ok (.iload 15, 2) := by decide +kernel
theorem d178_552 : decode method_54_code 552 = .ok (.iload 11, 2) := by decide +kernel
theorem d178_554 : decode method_54_code 554 = .ok (.ifCond .eq 15, 3) := by decide +kernel
theorem d178_557 : decode method_54_code 557 = .ok (.iload 6, 2) := by decide +kernel
theorem d178_559 : decode method_54_code 559 = .ok (.iconst 1, 1) := by decide +kernel
theorem d178_560 : decode method_54_code 560 = .ok (.iadd, 1) := by decide +kernel
theorem d178_561 : decode method_54_code 561 = .ok (.iload 7, 2) := by decide +kernel
theorem d178_563 : decode method_54_code 563 = .ok (.iconst 1, 1) := by decide +kernel
theorem d178_564 : decode method_54_code 564 = .ok (.iadd, 1) := by decide +kernel
theorem d178_565 : decode method_54_code 565 = .ok (.imul, 1) := by decide +kernel
theorem d178_566 : decode method_54_code 566 = .ok (.goto 5, 3) := by decide +kernel
theorem d178_569 : decode method_54_code 569 = .ok (.ldc 20, 2) := by decide +kernel
theorem d178_571 : decode method_54_code 571 = .ok (.if_icmp .ne 82, 3) := by decide +kernel
theorem d178_574 : decode method_54_code 574 = .ok (.iload 15, 2) := by decide +kernel
theorem d178_576 : decode method_54_code 576 = .ok (.ifCond .lt 73, 3) := by decide +kernel
theorem d178_579 : decode method_54_code 579 = .ok (.aload_n 0, 1) := by decide +kernel
theorem d178_580 : decode method_54_code 580 = .ok (.iload 9, 2) := by decide +kernel
theorem d178_582 : decode method_54_code 582 = .ok (.invokevirtual 95, 3) := by decide +kernel
theorem d178_585 : decode method_54_code 585 = .ok (.iload 13, 2) := by decide +kernel
theorem d178_587 : decode method_54_code 587 = .ok (.if_icmp .ne 66, 3) := by decide +kernel
theorem d178_590 : decode method_54_code 590 = .ok (.iload 13, 2) := by decide +kernel
theorem d178_592 : decode method_54_code 592 = .ok (.ifCond .ne 14, 3) := by decide +kernel
theorem d178_595 : decode method_54_code 595 = .ok (.aload_n 0, 1) := by decide +kernel
theorem d178_596 : decode method_54_code 596 = .ok (.iload 9, 2) := by decide +kernel
theorem d178_598 : decode method_54_code 598 = .ok (.invokestatic 188, 3) := by decide +kernel
theorem d178_601 : decode method_54_code 601 = .ok (.iload 12, 2) := by decide +kernel
theorem d178_603 : decode method_54_code 603 = .ok (.if_icmp .ne 50, 3) := by decide +kernel
theorem d178_606 : decode method_54_code 606 = .ok (.aload_n 0, 1) := by decide +kernel
theorem d178_607 : decode method_54_code 607 = .ok (.invokevirtual 179, 3) := by decide +kernel
theorem d178_610 : decode method_54_code 610 = .ok (.aload_n 0, 1) := by decide +kernel
theorem d178_611 : decode method_54_code 611 = .ok (.invokevirtual 227, 3) := by decide +kernel
theorem k178_227_10 : xCa (xMo 178) 227 10 = some (1, 7, 0) := by decide +kernel
theorem n178_227 : xcn (xMo 178) 227 = some 0 := by decide +kernel
theorem d178_614 : decode method_54_code 614 = .ok (.if_icmp .ne 39, 3) := by decide +kernel
theorem d178_617 : decode method_54_code 617 = .ok (.aload_n 0, 1) := by decide +kernel
theorem d178_618 : decode method_54_code 618 = .ok (.invokevirtual 182, 3) := by decide +kernel
theorem d178_621 : decode method_54_code 621 = .ok (.iload 5, 2) := by decide +kernel
theorem d178_623 : decode method_54_code 623 = .ok (.aload_n 0, 1) := by decide +kernel
theorem d178_624 : decode method_54_code 624 = .ok (.invokevirtual 227, 3) := by decide +kernel
theorem d178_627 : decode method_54_code 627 = .ok (.iadd, 1) := by decide +kernel
theorem d178_628 : decode method_54_code 628 = .ok (.if_icmp .ne 25, 3) := by decide +kernel
theorem d178_631 : decode method_54_code 631 = .ok (.iload 9, 2) := by decide +kernel
theorem d178_633 : decode method_54_code 633 = .ok (.iload 8, 2) := by decide +kernel
theorem d178_635 : decode method_54_code 635 = .ok (.if_icmp .ne 14, 3) := by decide +kernel
theorem d178_638 : decode method_54_code 638 = .ok (.aload_n 0, 1) := by decide +kernel
theorem d178_639 : decode method_54_code 639 = .ok (.iload 8, 2) := by decide +kernel
theorem d178_641 : decode method_54_code 641 = .ok (.invokevirtual 119, 3) := by decide +kernel
theorem d178_644 : decode method_54_code 644 = .ok (.iload 14, 2) := by decide +kernel
theorem d178_646 : decode method_54_code 646 = .ok (.if_icmp .ne 7, 3) := by decide +kernel
theorem d178_649 : decode method_54_code 649 = .ok (.iconst 1, 1) := by decide +kernel
theorem d178_650 : decode method_54_code 650 = .ok (.goto 4, 3) := by decide +kernel
theorem d178_653 : decode method_54_code 653 = .ok (.iconst 0, 1) := by decide +kernel
theorem d178_654 : decode method_54_code 654 = .ok (.ireturn, 1) := by decide +kernel
theorem d178_655 : decode method_54_code 655 = .ok (.iload_n 3, 1) := by decide +kernel
theorem d178_656 : decode method_54_code 656 = .ok (.bipush 26, 2) := by decide +kernel
theorem d178_658 : decode method_54_code 658 = .ok (.if_icmp .ge 253, 3) := by decide +kernel
theorem d178_661 : decode method_54_code 661 = .ok (.iload_n 2, 1) := by decide +kernel
theorem d178_662 : decode method_54_code 662 = .ok (.iconst 3, 1) := by decide +kernel
theorem d178_663 : decode method_54_code 663 = .ok (.ishr, 1) := by decide +kernel
theorem d178_664 : decode method_54_code 664 = .ok (.invokestatic 239, 3) := by decide +kernel
theorem d178_667 : decode method_54_code 667 = .ok (.istore 6, 2) := by decide +kernel
theorem d178_669 : decode method_54_code 669 = .ok (.iload 4, 2) := by decide +kernel
theorem d178_671 : decode method_54_code 671 = .ok (.sipush 200, 3) := by decide +kernel
theorem d178_674 : decode method_54_code 674 = .ok (.if_icmp .eq 10, 3) := by decide +kernel
theorem d178_677 : decode method_54_code 677 = .ok (.iload 4, 2) := by decide +kernel
theorem d178_679 : decode method_54_code 679 = .ok (.iload 6, 2) := by decide +kernel
theorem d178_681 : decode method_54_code 681 = .ok (.if_icmp .ne 7, 3) := by decide +kernel
theorem d178_684 : decode method_54_code 684 = .ok (.iconst 1, 1) := by decide +kernel
theorem d178_685 : decode method_54_code 685 = .ok (.goto 4, 3) := by decide +kernel
theorem d178_688 : decode method_54_code 688 = .ok (.iconst 0, 1) := by decide +kernel
theorem d178_689 : decode method_54_code 689 = .ok (.istore 7, 2) := by decide +kernel
theorem d178_691 : decode method_54_code 691 = .ok (.aload_n 0, 1) := by decide +kernel
theorem d178_692 : decode method_54_code 692 = .ok (.invokevirtual 185, 3) := by decide +kernel
theorem d178_695 : decode method_54_code 695 = .ok (.istore 8, 2) := by decide +kernel
theorem d178_697 : decode method_54_code 697 = .ok (.iload 7, 2) := by decide +kernel
theorem d178_699 : decode method_54_code 699 = .ok (.ifCond .ne 12, 3) := by decide +kernel
theorem d178_702 : decode method_54_code 702 = .ok (.aload_n 0, 1) := by decide +kernel
theorem d178_703 : decode method_54_code 703 = .ok (.iload 6, 2) := by decide +kernel
theorem d178_705 : decode method_54_code 705 = .ok (.invokevirtual 91, 3) := by decide +kernel
theorem d178_708 : decode method_54_code 708 = .ok (.ifCond .eq 7, 3) := by decide +kernel
theorem d178_711 : decode method_54_code 711 = .ok (.iconst 0, 1) := by decide +kernel
theorem d178_712 : decode method_54_code 712 = .ok (.goto 4, 3) := by decide +kernel
theorem d178_715 : decode method_54_code 715 = .ok (.iconst 1, 1) := by decide +kernel
theorem d178_716 : decode method_54_code 716 = .ok (.istore 9, 2) := by decide +kernel
theorem d178_718 : decode method_54_code 718 = .ok (.iload 7, 2) := by decide +kernel
theorem d178_720 : decode method_54_code 720 = .ok (.ifCond .ne 16, 3) := by decide +kernel
theorem d178_723 : decode method_54_code 723 = .ok (.aload_n 0, 1) := by decide +kernel
theorem d178_724 : decode method_54_code 724 = .ok (.iload 4, 2) := by decide +kernel
theorem d178_726 : decode method_54_code 726 = .ok (.invokevirtual 91, 3) := by decide +kernel
theorem d178_729 : decode method_54_code 729 = .ok (.ifCond .eq 7, 3) := by decide +kernel
theorem d178_732 : decode method_54_code 732 = .ok (.iconst 1, 1) := by decide +kernel
theorem d178_733 : decode method_54_code 733 = .ok (.goto 4, 3) := by decide +kernel
theorem d178_736 : decode method_54_code 736 = .ok (.iconst 0, 1) := by decide +kernel
theorem d178_737 : decode method_54_code 737 = .ok (.istore 10, 2) := by decide +kernel
theorem d178_739 : decode method_54_code 739 = .ok (.iload 7, 2) := by decide +kernel
theorem d178_741 : decode method_54_code 741 = .ok (.ifCond .ne 16, 3) := by decide +kernel
theorem d178_744 : decode method_54_code 744 = .ok (.aload_n 0, 1) := by decide +kernel
theorem d178_745 : decode method_54_code 745 = .ok (.iload 4, 2) := by decide +kernel
theorem d178_747 : decode method_54_code 747 = .ok (.invokevirtual 95, 3) := by decide +kernel
theorem d178_750 : decode method_54_code 750 = .ok (.ifCond .eq 7, 3) := by decide +kernel
theorem d178_753 : decode method_54_code 753 = .ok (.iconst 1, 1) := by decide +kernel
theorem d178_754 : decode method_54_code 754 = .ok (.goto 4, 3) := by decide +kernel
theorem d178_757 : decode method_54_code 757 = .ok (.iconst 0, 1) := by decide +kernel
theorem d178_758 : decode method_54_code 758 = .ok (.istore 11, 2) := by decide +kernel
theorem d178_760 : decode method_54_code 760 = .ok (.iload 7, 2) := by decide +kernel
theorem d178_762 : decode method_54_code 762 = .ok (.ifCond .eq 7, 3) := by decide +kernel
theorem d178_765 : decode method_54_code 765 = .ok (.iconst 0, 1) := by decide +kernel
theorem d178_766 : decode method_54_code 766 = .ok (.goto 9, 3) := by decide +kernel
theorem d178_769 : decode method_54_code 769 = .ok (.aload_n 0, 1) := by decide +kernel
theorem d178_770 : decode method_54_code 770 = .ok (.iload 4, 2) := by decide +kernel
theorem d178_772 : decode method_54_code 772 = .ok (.invokestatic 188, 3) := by decide +kernel
theorem d178_775 : decode method_54_code 775 = .ok (.istore 12, 2) := by decide +kernel
theorem d178_777 : decode method_54_code 777 = .ok (.aload_n 0, 1) := by decide +kernel
theorem d178_778 : decode method_54_code 778 = .ok (.iload 4, 2) := by decide +kernel
theorem d178_780 : decode method_54_code 780 = .ok (.iload 6, 2) := by decide +kernel
theorem d178_782 : decode method_54_code 782 = .ok (.invokestatic 274, 3) := by decide +kernel
theorem k178_274_99 : xCa (xMo 178) 274 99 = some (0, 202, 3) := by decide +kernel
theorem d178_785 : decode method_54_code 785 = .ok (.istore 13, 2) := by decide +kernel
theorem d178_787 : decode method_54_code 787 = .ok (.iload 7, 2) := by decide +kernel
theorem d178_789 : decode method_54_code 789 = .ok (.ifCond .eq 18, 3) := by decide +kernel
theorem d178_792 : decode method_54_code 792 = .ok (.iload 13, 2) := by decide +kernel
theorem d178_794 : decode method_54_code 794 = .ok (.ldc 17, 2) := by decide +kernel
theorem d178_796 : decode method_54_code 796 = .ok (.if_icmp .ne 7, 3) := by decide +kernel
theorem d178_799 : decode method_54_code 799 = .ok (.iconst 1, 1) := by decide +kernel
theorem d178_800 : decode method_54_code 800 = .ok (.goto 110, 3) := by decide +kernel
theorem d178_803 : decode method_54_code 803 = .ok (.iconst 0, 1) := by decide +kernel
theorem d178_804 : decode method_54_code 804 = .ok (.goto 106, 3) := by decide +kernel
theorem d178_807 : decode method_54_code 807 = .ok (.iload 13, 2) := by decide +kernel
theorem d178_809 : decode method_54_code 809 = .ok (.ifCond .lt 100, 3) := by decide +kernel
theorem d178_812 : decode method_54_code 812 = .ok (.aload_n 0, 1) := by decide +kernel
theorem d178_813 : decode method_54_code 813 = .ok (.iload 4, 2) := by decide +kernel
theorem d178_815 : decode method_54_code 815 = .ok (.invokevirtual 91, 3) := by decide +kernel
theorem d178_818 : decode method_54_code 818 = .ok (.ifCond .eq 91, 3) := by decide +kernel
theorem d178_821 : decode method_54_code 821 = .ok (.aload_n 0, 1) := by decide +kernel
theorem d178_822 : decode method_54_code 822 = .ok (.iload 6, 2) := by decide +kernel
theorem d178_824 : decode method_54_code 824 = .ok (.invokevirtual 91, 3) := by decide +kernel
theorem d178_827 : decode method_54_code 827 = .ok (.iload 10, 2) := by decide +kernel
theorem d178_829 : decode method_54_code 829 = .ok (.if_icmp .ne 80, 3) := by decide +kernel
theorem d178_832 : decode method_54_code 832 = .ok (.aload_n 0, 1) := by decide +kernel
theorem d178_833 : decode method_54_code 833 = .ok (.iload 6, 2) := by decide +kernel
theorem d178_835 : decode method_54_code 835 = .ok (.invokevirtual 95, 3) := by decide +kernel
theorem d178_838 : decode method_54_code 838 = .ok (.iload 11, 2) := by decide +kernel
theorem d178_840 : decode method_54_code 840 = .ok (.if_icmp .ne 69, 3) := by decide +kernel
theorem d178_843 : decode method_54_code 843 = .ok (.iload 11, 2) := by decide +kernel
theorem d178_845 : decode method_54_code 845 = .ok (.ifCond .ne 14, 3) := by decide +kernel
theorem d178_848 : decode method_54_code 848 = .ok (.aload_n 0, 1) := by decide +kernel
theorem d178_849 : decode method_54_code 849 = .ok (.iload 6, 2) := by decide +kernel
theorem d178_851 : decode method_54_code 851 = .ok (.invokestatic 188, 3) := by decide +kernel
theorem d178_854 : decode method_54_code 854 = .ok (.iload 12, 2) := by decide +kernel
theorem d178_856 : decode method_54_code 856 = .ok (.if_icmp .ne 53, 3) := by decide +kernel
theorem d178_859 : decode method_54_code 859 = .ok (.aload_n 0, 1) := by decide +kernel
theorem d178_860 : decode method_54_code 860 = .ok (.invokevirtual 185, 3) := by decide +kernel
theorem d178_863 : decode method_54_code 863 = .ok (.iload 8, 2) := by decide +kernel
theorem d178_865 : decode method_54_code 865 = .ok (.iload 9, 2) := by decide +kernel
theorem d178_867 : decode method_54_code 867 = .ok (.isub, 1) := by decide +kernel
theorem d178_868 : decode method_54_code 868 = .ok (.if_icmp .ne 41, 3) := by decide +kernel
theorem d178_871 : decode method_54_code 871 = .ok (.aload_n 0, 1) := by decide +kernel
theorem d178_872 : decode method_54_code 872 = .ok (.invokevirtual 179, 3) := by decide +kernel
theorem d178_875 : decode method_54_code 875 = .ok (.aload_n 0, 1) := by decide +kernel
theorem d178_876 : decode method_54_code 876 = .ok (.invokevirtual 227, 3) := by decide +kernel
theorem d178_879 : decode method_54_code 879 = .ok (.if_icmp .ne 30, 3) := by decide +kernel
theorem d178_882 : decode method_54_code 882 = .ok (.aload_n 0, 1) := by decide +kernel
theorem d178_883 : decode method_54_code 883 = .ok (.invokevirtual 182, 3) := by decide +kernel
theorem d178_886 : decode method_54_code 886 = .ok (.iload 5, 2) := by decide +kernel
theorem d178_888 : decode method_54_code 888 = .ok (.aload_n 0, 1) := by decide +kernel
theorem d178_889 : decode method_54_code 889 = .ok (.invokevirtual 227, 3) := by decide +kernel
theorem d178_892 : decode method_54_code 892 = .ok (.iadd, 1) := by decide +kernel
theorem d178_893 : decode method_54_code 893 = .ok (.if_icmp .ne 16, 3) := by decide +kernel
theorem d178_896 : decode method_54_code 896 = .ok (.aload_n 0, 1) := by decide +kernel
theorem d178_897 : decode method_54_code 897 = .ok (.iload 4, 2) := by decide +kernel
theorem d178_899 : decode method_54_code 899 = .ok (.invokevirtual 125, 3) := by decide +kernel
theorem k178_125_10 : xCa (xMo 178) 125 10 = some (1, 49, 1) := by decide +kernel
theorem n178_125 : xcn (xMo 178) 125 = some 1 := by decide +kernel
theorem d178_902 : decode method_54_code 902 = .ok (.ifCond .lt 7, 3) := by decide +kernel
theorem d178_905 : decode method_54_code 905 = .ok (.iconst 1, 1) := by decide +kernel
theorem d178_906 : decode method_54_code 906 = .ok (.goto 4, 3) := by decide +kernel
theorem d178_909 : decode method_54_code 909 = .ok (.iconst 0, 1) := by decide +kernel
theorem d178_910 : decode method_54_code 910 = .ok (.ireturn, 1) := by decide +kernel
theorem d178_911 : decode method_54_code 911 = .ok (.iload_n 3, 1) := by decide +kernel
theorem d178_912 : decode method_54_code 912 = .ok (.bipush 30, 2) := by decide +kernel
theorem d178_914 : decode method_54_code 914 = .ok (.if_icmp .ge 13, 3) := by decide +kernel
theorem d178_917 : decode method_54_code 917 = .ok (.aload_n 0, 1) := by decide +kernel
theorem d178_918 : decode method_54_code 918 = .ok (.iload_n 3, 1) := by decide +kernel
theorem d178_919 : decode method_54_code 919 = .ok (.bipush 26, 2) := by decide +kernel
theorem d178_921 : decode method_54_code 921 = .ok (.isub, 1) := by decide +kernel
theorem d178_922 : decode method_54_code 922 = .ok (.iload_n 2, 1) := by decide +kernel
theorem d178_923 : decode method_54_code 923 = .ok (.invokestatic 276, 3) := by decide +kernel
theorem k178_276_99 : xCa (xMo 178) 276 99 = some (0, 198, 3) := by decide +kernel
theorem d178_926 : decode method_54_code 926 = .ok (.ireturn, 1) := by decide +kernel
theorem d178_927 : decode method_54_code 927 = .ok (.aload_n 0, 1) := by decide +kernel
theorem d178_928 : decode method_54_code 928 = .ok (.invokevirtual 157, 3) := by decide +kernel
theorem k178_157_10 : xCa (xMo 178) 157 10 = some (1, 1, 0) := by decide +kernel
theorem n178_157 : xcn (xMo 178) 157 = some 0 := by decide +kernel
theorem d178_931 : decode method_54_code 931 = .ok (.ifCond .lt 55, 3) := by decide +kernel
theorem d178_934 : decode method_54_code 934 = .ok (.aload_n 0, 1) := by decide +kernel
theorem d178_935 : decode method_54_code 935 = .ok (.ldc2_w 279, 3) := by decide +kernel
theorem d178_938 : decode method_54_code 938 = .ok (.invokestatic 169, 3) := by decide +kernel
theorem k178_169_99 : xCa (xMo 178) 169 99 = some (0, 216, 2) := by decide +kernel
theorem d178_941 : decode method_54_code 941 = .ok (.ifCond .eq 45, 3) := by decide +kernel
theorem d178_944 : decode method_54_code 944 = .ok (.iload_n 2, 1) := by decide +kernel
theorem d178_945 : decode method_54_code 945 = .ok (.iconst 2, 1) := by decide +kernel
theorem d178_946 : decode method_54_code 946 = .ok (.invokestatic 150, 3) := by decide +kernel
theorem d178_949 : decode method_54_code 949 = .ok (.ifCond .eq 13, 3) := by decide +kernel
theorem d178_952 : decode method_54_code 952 = .ok (.aload_n 0, 1) := by decide +kernel
theorem d178_953 : decode method_54_code 953 = .ok (.ldc2_w 281, 3) := by decide +kernel
theorem d178_956 : decode method_54_code 956 = .ok (.invokestatic 169, 3) := by decide +kernel
theorem d178_959 : decode method_54_code 959 = .ok (.ifCond .eq 27, 3) := by decide +kernel
theorem d178_962 : decode method_54_code 962 = .ok (.iload_n 2, 1) := by decide +kernel
theorem d178_963 : decode method_54_code 963 = .ok (.iconst 1, 1) := by decide +kernel
theorem d178_964 : decode method_54_code 964 = .ok (.ishr, 1) := by decide +kernel
theorem d178_965 : decode method_54_code 965 = .ok (.bipush 9, 2) := by decide +kernel
theorem d178_967 : decode method_54_code 967 = .ok (.invokestatic 150, 3) := by decide +kernel
theorem d178_970 : decode method_54_code 970 = .ok (.ifCond .gt 12, 3) := by decide +kernel
theorem d178_973 : decode method_54_code 973 = .ok (.aload_n 0, 1) := by decide +kernel
theorem d178_974 : decode method_54_code 974 = .ok (.bipush 59, 2) := by decide +kernel
theorem d178_976 : decode method_54_code 976 = .ok (.invokestatic 145, 3) := by decide +kernel
theorem k178_145_99 : xCa (xMo 178) 145 99 = some (0, 211, 2) := by decide +kernel
theorem d178_979 : decode method_54_code 979 = .ok (.ifCond .le 7, 3) := by decide +kernel
theorem d178_982 : decode method_54_code 982 = .ok (.iconst 1, 1) := by decide +kernel
theorem d178_983 : decode method_54_code 983 = .ok (.goto 4, 3) := by decide +kernel
theorem d178_986 : decode method_54_code 986 = .ok (.iconst 0, 1) := by decide +kernel
theorem d178_987 : decode method_54_code 987 = .ok (.istore 6, 2) := by decide +kernel
theorem d178_989 : decode method_54_code 989 = .ok (.aload_n 0, 1) := by decide +kernel
theorem d178_990 : decode method_54_code 990 = .ok (.invokevirtual 283, 3) := by decide +kernel
theorem k178_283_10 : xCa (xMo 178) 283 10 = some (1, 3, 0) := by decide +kernel
theorem n178_283 : xcn (xMo 178) 283 = some 0 := by decide +kernel
theorem d178_993 : decode method_54_code 993 = .ok (.istore 7, 2) := by decide +kernel
theorem d178_995 : decode method_54_code 995 = .ok (.aload_n 0, 1) := by decide +kernel
theorem d178_996 : decode method_54_code 996 = .ok (.invokestatic 286, 3) := by decide +kernel
theorem k178_286_99 : xCa (xMo 178) 286 99 = some (0, 209, 1) := by decide +kernel
theorem d178_999 : decode method_54_code 999 = .ok (.istore 8, 2) := by decide +kernel
theorem d178_1001 : decode method_54_code 1001 = .ok (.iload 6, 2) := by decide +kernel
theorem d178_1003 : decode method_54_code 1003 = .ok (.ifCond .eq 93, 3) := by decide +kernel
theorem d178_1006 : decode method_54_code 1006 = .ok (.iload 7, 2) := by decide +kernel
theorem d178_1008 : decode method_54_code 1008 = .ok (.ifCond .lt 22, 3) := by decide +kernel
theorem d178_1011 : decode method_54_code 1011 = .ok (.iload 8, 2) := by decide +kernel
theorem d178_1013 : decode method_54_code 1013 = .ok (.ldc 20, 2) := by decide +kernel
theorem d178_1015 : decode method_54_code 1015 = .ok (.if_icmp .ne 81, 3) := by decide +kernel
theorem d178_1018 : decode method_54_code 1018 = .ok (.aload_n 0, 1) := by decide +kernel
theorem d178_1019 : decode method_54_code 1019 = .ok (.invokevirtual 182, 3) := by decide +kernel
theorem d178_1022 : decode method_54_code 1022 = .ok (.iload 5, 2) := by decide +kernel
theorem d178_1024 : decode method_54_code 1024 = .ok (.if_icmp .ne 72, 3) := by decide +kernel
theorem d178_1027 : decode method_54_code 1027 = .ok (.goto 65, 3) := by decide +kernel
theorem d178_1030 : decode method_54_code 1030 = .ok (.iload 8, 2) := by decide +kernel
theorem d178_1032 : decode method_54_code 1032 = .ok (.iload_n 2, 1) := by decide +kernel
theorem d178_1033 : decode method_54_code 1033 = .ok (.iconst 2, 1) := by decide +kernel
theorem d178_1034 : decode method_54_code 1034 = .ok (.invokestatic 150, 3) := by decide +kernel
theorem d178_1037 : decode method_54_code 1037 = .ok (.ifCond .ne 7, 3) := by decide +kernel
theorem d178_1040 : decode method_54_code 1040 = .ok (.iconst 1, 1) := by decide +kernel
theorem d178_1041 : decode method_54_code 1041 = .ok (.goto 4, 3) := by decide +kernel
theorem d178_1044 : decode method_54_code 1044 = .ok (.iconst 2, 1) := by decide +kernel
theorem d178_1045 : decode method_54_code 1045 = .ok (.if_icmp .ne 51, 3) := by decide +kernel
theorem d178_1048 : decode method_54_code 1048 = .ok (.aload_n 0, 1) := by decide +kernel
theorem d178_1049 : decode method_54_code 1049 = .ok (.bipush 11, 2) := by decide +kernel
theorem d178_1051 : decode method_54_code 1051 = .ok (.invokevirtual 95, 3) := by decide +kernel
theorem d178_1054 : decode method_54_code 1054 = .ok (.ifCond .eq 42, 3) := by decide +kernel
theorem d178_1057 : decode method_54_code 1057 = .ok (.aload_n 0, 1) := by decide +kernel
theorem d178_1058 : decode method_54_code 1058 = .ok (.bipush 11, 2) := by decide +kernel
theorem d178_1060 : decode method_54_code 1060 = .ok (.iconst 0, 1) := by decide +kernel
theorem d178_1061 : decode method_54_code 1061 = .ok (.invokevirtual 66, 3) := by decide +kernel
theorem k178_66_10 : xCa (xMo 178) 66 10 = some (1, 51, 2) := by decide +kernel
theorem n178_66 : xcn (xMo 178) 66 = some 2 := by decide +kernel
theorem d178_1064 : decode method_54_code 1064 = .ok (.ifCond .eq 32, 3) := by decide +kernel
theorem d178_1067 : decode method_54_code 1067 = .ok (.aload_n 0, 1) := by decide +kernel
theorem d178_1068 : decode method_54_code 1068 = .ok (.invokevirtual 179, 3) := by decide +kernel
theorem d178_1071 : decode method_54_code 1071 = .ok (.aload_n 0, 1) := by decide +kernel
theorem d178_1072 : decode method_54_code 1072 = .ok (.invokevirtual 227, 3) := by decide +kernel
theorem d178_1075 : decode method_54_code 1075 = .ok (.if_icmp .ne 21, 3) := by decide +kernel
theorem d178_1078 : decode method_54_code 1078 = .ok (.aload_n 0, 1) := by decide +kernel
theorem d178_1079 : decode method_54_code 1079 = .ok (.invokevirtual 182, 3) := by decide +kernel
theorem d178_1082 : decode method_54_code 1082 = .ok (.iload 5, 2) := by decide +kernel
theorem d178_1084 : decode method_54_code 1084 = .ok (.aload_n 0, 1) := by decide +kernel
theorem d178_1085 : decode method_54_code 1085 = .ok (.invokevirtual 227, 3) := by decide +kernel
theorem d178_1088 : decode method_54_code 1088 = .ok (.iadd, 1) := by decide +kernel
theorem d178_1089 : decode method_54_code 1089 = .ok (.if_icmp .ne 7, 3) := by decide +kernel
theorem d178_1092 : decode method_54_code 1092 = .ok (.iconst 1, 1) := by decide +kernel
theorem d178_1093 : decode method_54_code 1093 = .ok (.goto 4, 3) := by decide +kernel
theorem d178_1096 : decode method_54_code 1096 = .ok (.iconst 0, 1) := by decide +kernel
theorem d178_1097 : decode method_54_code 1097 = .ok (.ireturn, 1) := by decide +kernel
set_option maxRecDepth 100000 in
theorem q179 : xMc 179 = method_21_code := rfl
theorem m179 : xMl 179 = 3 ∧ xMret 179 = (some FieldType.int) := by decide +kernel
theorem e179 {X : xX} {d : Nat} {w : xH} {Q : xO → xH → Prop} (x0 : Nat) (x1 : Int32) : Cw X d 179 [.ref x0, .int x1] w Q = Wx X d 179 0 [some (.ref x0), some (.int x1), none] [] w Q := by
  unfold Cw
  rw [m179.1]
  rfl
theorem d179_0 : decode method_21_code 0 = .ok (.aload_n 0, 1) := by decide +kernel
theorem d179_1 : decode method_21_code 1 = .ok (.iload_n 1, 1) := by decide +kernel
theorem d179_2 : decode method_21_code 2 = .ok (.invokevirtual 73, 3) := by decide +kernel
theorem k179_73_10 : xCa (xMo 179) 73 10 = some (1, 55, 1) := by decide +kernel
theorem n179_73 : xcn (xMo 179) 73 = some 1 := by decide +kernel
theorem d179_5 : decode method_21_code 5 = .ok (.ireturn, 1) := by decide +kernel
theorem d179_6 : decode method_21_code 6 = .ok (.astore_n 2, 1) := by decide +kernel
theorem d179_7 : decode method_21_code 7 = .ok (.ldc 17, 2) := by decide +kernel
theorem d179_9 : decode method_21_code 9 = .ok (.ireturn, 1) := by decide +kernel
theorem d179_10 : decode method_21_code 10 = .ok (.astore_n 2, 1) := by decide +kernel
theorem d179_11 : decode method_21_code 11 = .ok (.ldc 20, 2) := by decide +kernel
theorem d179_13 : decode method_21_code 13 = .ok (.ireturn, 1) := by decide +kernel
set_option maxRecDepth 100000 in
theorem q180 : xMc 180 = method_7_code := rfl
theorem m180 : xMl 180 = 3 ∧ xMret 180 = (some FieldType.int) := by decide +kernel
theorem e180 {X : xX} {d : Nat} {w : xH} {Q : xO → xH → Prop} (x0 : Nat) (x1 : Int32) : Cw X d 180 [.ref x0, .int x1] w Q = Wx X d 180 0 [some (.ref x0), some (.int x1), none] [] w Q := by
  unfold Cw
  rw [m180.1]
  rfl
theorem d180_0 : decode method_7_code 0 = .ok (.aload_n 0, 1) := by decide +kernel
theorem d180_1 : decode method_7_code 1 = .ok (.iload_n 1, 1) := by decide +kernel
theorem d180_2 : decode method_7_code 2 = .ok (.invokevirtual 28, 3) := by decide +kernel
theorem k180_28_10 : xCa (xMo 180) 28 10 = some (1, 18, 1) := by decide +kernel
theorem n180_28 : xcn (xMo 180) 28 = some 1 := by decide +kernel
theorem d180_5 : decode method_7_code 5 = .ok (.ireturn, 1) := by decide +kernel
theorem d180_6 : decode method_7_code 6 = .ok (.astore_n 2, 1) := by decide +kernel
theorem d180_7 : decode method_7_code 7 = .ok (.ldc 17, 2) := by decide +kernel
theorem d180_9 : decode method_7_code 9 = .ok (.ireturn, 1) := by decide +kernel
set_option maxRecDepth 100000 in
theorem q181 : xMc 181 = method_41_code := rfl
theorem m181 : xMl 181 = 3 ∧ xMret 181 = (some FieldType.long) := by decide +kernel
theorem e181 {X : xX} {d : Nat} {w : xH} {Q : xO → xH → Prop} (x0 : Nat) (x1 : Int32) : Cw X d 181 [.ref x0, .int x1] w Q = Wx X d 181 0 [some (.ref x0), some (.int x1), none] [] w Q := by
  unfold Cw
  rw [m181.1]
  rfl
theorem d181_0 : decode method_41_code 0 = .ok (.aload_n 0, 1) := by decide +kernel
theorem d181_1 : decode method_41_code 1 = .ok (.iload_n 1, 1) := by decide +kernel
theorem d181_2 : decode method_41_code 2 = .ok (.invokevirtual 134, 3) := by decide +kernel
theorem k181_134_10 : xCa (xMo 181) 134 10 = some (1, 56, 1) := by decide +kernel
theorem n181_134 : xcn (xMo 181) 134 = some 1 := by decide +kernel
theorem d181_5 : decode method_41_code 5 = .ok (.lreturn, 1) := by decide +kernel
theorem d181_6 : decode method_41_code 6 = .ok (.astore_n 2, 1) := by decide +kernel
theorem d181_7 : decode method_41_code 7 = .ok (.ldc2_w 138, 3) := by decide +kernel
theorem d181_10 : decode method_41_code 10 = .ok (.lreturn, 1) := by decide +kernel
set_option maxRecDepth 100000 in
theorem q182 : xMc 182 = method_8_code := rfl
theorem m182 : xMl 182 = 5 ∧ xMret 182 = (some FieldType.int) := by decide +kernel
theorem e182 {X : xX} {d : Nat} {w : xH} {Q : xO → xH → Prop} (x0 : Nat) (x1 : Int32) (x2 : Int32) (x3 : Int32) : Cw X d 182 [.ref x0, .int x1, .int x2, .int x3] w Q = Wx X d 182 0 [some (.ref x0), some (.int x1), some (.int x2), some (.int x3), none] [] w Q := by
  unfold Cw
  rw [m182.1]
  rfl
theorem d182_0 : decode method_8_code 0 = .ok (.aload_n 0, 1) := by decide +kernel
theorem d182_1 : decode method_8_code 1 = .ok (.iload_n 1, 1) := by decide +kernel
theorem d182_2 : decode method_8_code 2 = .ok (.iload_n 2, 1) := by decide +kernel
theorem d182_3 : decode method_8_code 3 = .ok (.iload_n 3, 1) := by decide +kernel
theorem d182_4 : decode method_8_code 4 = .ok (.invokevirtual 31, 3) := by decide +kernel
theorem k182_31_10 : xCa (xMo 182) 31 10 = some (1, 19, 3) := by decide +kernel
theorem n182_31 : xcn (xMo 182) 31 = some 3 := by decide +kernel
theorem d182_7 : decode method_8_code 7 = .ok (.ireturn, 1) := by decide +kernel
theorem d182_8 : decode method_8_code 8 = .ok (.astore 4, 2) := by decide +kernel
theorem d182_10 : decode method_8_code 10 = .ok (.ldc 17, 2) := by decide +kernel
theorem d182_12 : decode method_8_code 12 = .ok (.ireturn, 1) := by decide +kernel
theorem d182_13 : decode method_8_code 13 = .ok (.astore 4, 2) := by decide +kernel
theorem d182_15 : decode method_8_code 15 = .ok (.ldc 20, 2) := by decide +kernel
theorem d182_17 : decode method_8_code 17 = .ok (.ireturn, 1) := by decide +kernel
set_option maxRecDepth 100000 in
theorem q183 : xMc 183 = method_13_code := rfl
theorem m183 : xMl 183 = 3 ∧ xMret 183 = (some FieldType.int) := by decide +kernel
theorem e183 {X : xX} {d : Nat} {w : xH} {Q : xO → xH → Prop} (x0 : Nat) (x1 : Int32) : Cw X d 183 [.ref x0, .int x1] w Q = Wx X d 183 0 [some (.ref x0), some (.int x1), none] [] w Q := by
  unfold Cw
  rw [m183.1]
  rfl
theorem d183_0 : decode method_13_code 0 = .ok (.aload_n 0, 1) := by decide +kernel
theorem d183_1 : decode method_13_code 1 = .ok (.iload_n 1, 1) := by decide +kernel
theorem d183_2 : decode method_13_code 2 = .ok (.invokevirtual 47, 3) := by decide +kernel
theorem k183_47_10 : xCa (xMo 183) 47 10 = some (1, 27, 1) := by decide +kernel
theorem n183_47 : xcn (xMo 183) 47 = some 1 := by decide +kernel
theorem d183_5 : decode method_13_code 5 = .ok (.ireturn, 1) := by decide +kernel
theorem d183_6 : decode method_13_code 6 = .ok (.astore_n 2, 1) := by decide +kernel
theorem d183_7 : decode method_13_code 7 = .ok (.ldc 17, 2) := by decide +kernel
theorem d183_9 : decode method_13_code 9 = .ok (.ireturn, 1) := by decide +kernel
set_option maxRecDepth 100000 in
theorem q184 : xMc 184 = method_11_code := rfl
theorem m184 : xMl 184 = 3 ∧ xMret 184 = (some FieldType.int) := by decide +kernel
theorem e184 {X : xX} {d : Nat} {w : xH} {Q : xO → xH → Prop} (x0 : Nat) (x1 : Int32) : Cw X d 184 [.ref x0, .int x1] w Q = Wx X d 184 0 [some (.ref x0), some (.int x1), none] [] w Q := by
  unfold Cw
  rw [m184.1]
  rfl
theorem d184_0 : decode method_11_code 0 = .ok (.aload_n 0, 1) := by decide +kernel
theorem d184_1 : decode method_11_code 1 = .ok (.iload_n 1, 1) := by decide +kernel
theorem d184_2 : decode method_11_code 2 = .ok (.invokevirtual 41, 3) := by decide +kernel
theorem k184_41_10 : xCa (xMo 184) 41 10 = some (1, 24, 1) := by decide +kernel
theorem n184_41 : xcn (xMo 184) 41 = some 1 := by decide +kernel
theorem d184_5 : decode method_11_code 5 = .ok (.ireturn, 1) := by decide +kernel
theorem d184_6 : decode method_11_code 6 = .ok (.astore_n 2, 1) := by decide +kernel
theorem d184_7 : decode method_11_code 7 = .ok (.ldc 17, 2) := by decide +kernel
theorem d184_9 : decode method_11_code 9 = .ok (.ireturn, 1) := by decide +kernel
set_option maxRecDepth 100000 in
theorem q185 : xMc 185 = method_19_code := rfl
theorem m185 : xMl 185 = 5 ∧ xMret 185 = (some FieldType.int) := by decide +kernel
theorem e185 {X : xX} {d : Nat} {w : xH} {Q : xO → xH → Prop} (x0 : Nat) (x1 : Int32) (x2 : Int32) : Cw X d 185 [.ref x0, .int x1, .int x2] w Q = Wx X d 185 0 [some (.ref x0), some (.int x1), some (.int x2), none, none] [] w Q := by
  unfold Cw
  rw [m185.1]
  rfl
theorem d185_0 : decode method_19_code 0 = .ok (.iconst 0, 1) := by decide +kernel
theorem d185_1 : decode method_19_code 1 = .ok (.istore_n 3, 1) := by decide +kernel
theorem d185_2 : decode method_19_code 2 = .ok (.aload_n 0, 1) := by decide +kernel
theorem d185_3 : decode method_19_code 3 = .ok (.iload_n 1, 1) := by decide +kernel
theorem d185_4 : decode method_19_code 4 = .ok (.iload_n 2, 1) := by decide +kernel
theorem d185_5 : decode method_19_code 5 = .ok (.invokevirtual 66, 3) := by decide +kernel
theorem k185_66_10 : xCa (xMo 185) 66 10 = some (1, 51, 2) := by decide +kernel
theorem n185_66 : xcn (xMo 185) 66 = some 2 := by decide +kernel
theorem d185_8 : decode method_19_code 8 = .ok (.istore_n 3, 1) := by decide +kernel
theorem d185_9 : decode method_19_code 9 = .ok (.goto 8, 3) := by decide +kernel
theorem d185_12 : decode method_19_code 12 = .ok (.astore 4, 2) := by decide +kernel
theorem d185_14 : decode method_19_code 14 = .ok (.ldc 17, 2) := by decide +kernel
theorem d185_16 : decode method_19_code 16 = .ok (.ireturn, 1) := by decide +kernel
theorem d185_17 : decode method_19_code 17 = .ok (.iload_n 3, 1) := by decide +kernel
theorem d185_18 : decode method_19_code 18 = .ok (.ifCond .eq 7, 3) := by decide +kernel
theorem d185_21 : decode method_19_code 21 = .ok (.iconst 1, 1) := by decide +kernel
theorem d185_22 : decode method_19_code 22 = .ok (.goto 4, 3) := by decide +kernel
theorem d185_25 : decode method_19_code 25 = .ok (.iconst 0, 1) := by decide +kernel
theorem d185_26 : decode method_19_code 26 = .ok (.ireturn, 1) := by decide +kernel
set_option maxRecDepth 100000 in
theorem q186 : xMc 186 = method_44_code := rfl
theorem m186 : xMl 186 = 2 ∧ xMret 186 = (some FieldType.boolean) ∧ xMh 186 = [] := by decide +kernel
theorem e186 {X : xX} {d : Nat} {w : xH} {Q : xO → xH → Prop} (x0 : Nat) (x1 : Int32) : Cw X d 186 [.ref x0, .int x1] w Q = Wx X d 186 0 [some (.ref x0), some (.int x1)] [] w Q := by
  unfold Cw
  rw [m186.1]
  rfl
theorem d186_0 : decode method_44_code 0 = .ok (.iload_n 1, 1) := by decide +kernel
theorem d186_1 : decode method_44_code 1 = .ok (.bipush 10, 2) := by decide +kernel
theorem d186_3 : decode method_44_code 3 = .ok (.if_icmp .lt 17, 3) := by decide +kernel
theorem d186_6 : decode method_44_code 6 = .ok (.aload_n 0, 1) := by decide +kernel
theorem d186_7 : decode method_44_code 7 = .ok (.bipush 48, 2) := by decide +kernel
theorem d186_9 : decode method_44_code 9 = .ok (.iload_n 1, 1) := by decide +kernel
theorem d186_10 : decode method_44_code 10 = .ok (.bipush 10, 2) := by decide +kernel
theorem d186_12 : decode method_44_code 12 = .ok (.idiv, 1) := by decide +kernel
theorem d186_13 : decode method_44_code 13 = .ok (.iadd, 1) := by decide +kernel
theorem d186_14 : decode method_44_code 14 = .ok (.invokestatic 145, 3) := by decide +kernel
theorem k186_145_99 : xCa (xMo 186) 145 99 = some (0, 211, 2) := by decide +kernel
theorem d186_17 : decode method_44_code 17 = .ok (.ifCond .le 21, 3) := by decide +kernel
theorem d186_20 : decode method_44_code 20 = .ok (.aload_n 0, 1) := by decide +kernel
theorem d186_21 : decode method_44_code 21 = .ok (.bipush 48, 2) := by decide +kernel
theorem d186_23 : decode method_44_code 23 = .ok (.iload_n 1, 1) := by decide +kernel
theorem d186_24 : decode method_44_code 24 = .ok (.bipush 10, 2) := by decide +kernel
theorem d186_26 : decode method_44_code 26 = .ok (.irem, 1) := by decide +kernel
theorem d186_27 : decode method_44_code 27 = .ok (.iadd, 1) := by decide +kernel
theorem d186_28 : decode method_44_code 28 = .ok (.invokestatic 145, 3) := by decide +kernel
theorem d186_31 : decode method_44_code 31 = .ok (.ifCond .le 7, 3) := by decide +kernel
theorem d186_34 : decode method_44_code 34 = .ok (.iconst 1, 1) := by decide +kernel
theorem d186_35 : decode method_44_code 35 = .ok (.goto 4, 3) := by decide +kernel
theorem d186_38 : decode method_44_code 38 = .ok (.iconst 0, 1) := by decide +kernel
theorem d186_39 : decode method_44_code 39 = .ok (.ireturn, 1) := by decide +kernel
set_option maxRecDepth 100000 in
theorem q187 : xMc 187 = method_46_code := rfl
theorem m187 : xMl 187 = 8 ∧ xMret 187 = (some FieldType.boolean) ∧ xMh 187 = [] := by decide +kernel
theorem e187 {X : xX} {d : Nat} {w : xH} {Q : xO → xH → Prop} (x0 : Nat) (x1 : Int32) (x2 : Int32) : Cw X d 187 [.ref x0, .int x1, .int x2] w Q = Wx X d 187 0 [some (.ref x0), some (.int x1), some (.int x2), none, none, none, none, none] [] w Q := by
  unfold Cw
  rw [m187.1]
  rfl
theorem d187_0 : decode method_46_code 0 = .ok (.aload_n 0, 1) := by decide +kernel
theorem d187_1 : decode method_46_code 1 = .ok (.invokevirtual 157, 3) := by decide +kernel
theorem k187_157_10 : xCa (xMo 187) 157 10 = some (1, 1, 0) := by decide +kernel
theorem n187_157 : xcn (xMo 187) 157 = some 0 := by decide +kernel
theorem d187_4 : decode method_46_code 4 = .ok (.ifCond .lt 7, 3) := by decide +kernel
theorem d187_7 : decode method_46_code 7 = .ok (.iconst 1, 1) := by decide +kernel
theorem d187_8 : decode method_46_code 8 = .ok (.goto 4, 3) := by decide +kernel
theorem d187_11 : decode method_46_code 11 = .ok (.iconst 0, 1) := by decide +kernel
theorem d187_12 : decode method_46_code 12 = .ok (.istore_n 3, 1) := by decide +kernel
theorem d187_13 : decode method_46_code 13 = .ok (.iload_n 1, 1) := by decide +kernel
theorem d187_14 : decode method_46_code 14 = .ok (.bipush 9, 2) := by decide +kernel
theorem d187_16 : decode method_46_code 16 = .ok (.invokestatic 150, 3) := by decide +kernel
theorem k187_150_99 : xCa (xMo 187) 150 99 = some (0, 201, 2) := by decide +kernel
theorem d187_19 : decode method_46_code 19 = .ok (.ifCond .ne 26, 3) := by decide +kernel
theorem d187_22 : decode method_46_code 22 = .ok (.iload_n 3, 1) := by decide +kernel
theorem d187_23 : decode method_46_code 23 = .ok (.ifCond .eq 20, 3) := by decide +kernel
theorem d187_26 : decode method_46_code 26 = .ok (.aload_n 0, 1) := by decide +kernel
theorem d187_27 : decode method_46_code 27 = .ok (.iload_n 2, 1) := by decide +kernel
theorem d187_28 : decode method_46_code 28 = .ok (.bipush 100, 2) := by decide +kernel
theorem d187_30 : decode method_46_code 30 = .ok (.invokestatic 150, 3) := by decide +kernel
theorem d187_33 : decode method_46_code 33 = .ok (.invokestatic 153, 3) := by decide +kernel
theorem k187_153_99 : xCa (xMo 187) 153 99 = some (0, 186, 2) := by decide +kernel
theorem d187_36 : decode method_46_code 36 = .ok (.ifCond .eq 7, 3) := by decide +kernel
theorem d187_39 : decode method_46_code 39 = .ok (.iconst 1, 1) := by decide +kernel
theorem d187_40 : decode method_46_code 40 = .ok (.goto 4, 3) := by decide +kernel
theorem d187_43 : decode method_46_code 43 = .ok (.iconst 0, 1) := by decide +kernel
theorem d187_44 : decode method_46_code 44 = .ok (.ireturn, 1) := by decide +kernel
theorem d187_45 : decode method_46_code 45 = .ok (.iconst 1, 1) := by decide +kernel
theorem d187_46 : decode method_46_code 46 = .ok (.iload_n 1, 1) := by decide +kernel
theorem d187_47 : decode method_46_code 47 = .ok (.iconst 3, 1) := by decide +kernel
theorem d187_48 : decode method_46_code 48 = .ok (.ishr, 1) := by decide +kernel
theorem d187_49 : decode method_46_code 49 = .ok (.iconst 2, 1) := by decide +kernel
theorem d187_50 : decode method_46_code 50 = .ok (.invokestatic 150, 3) := by decide +kernel
theorem d187_53 : decode method_46_code 53 = .ok (.iadd, 1) := by decide +kernel
theorem d187_54 : decode method_46_code 54 = .ok (.istore 4, 2) := by decide +kernel
theorem d187_56 : decode method_46_code 56 = .ok (.iload_n 3, 1) := by decide +kernel
theorem d187_57 : decode method_46_code 57 = .ok (.ifCond .eq 16, 3) := by decide +kernel
theorem d187_60 : decode method_46_code 60 = .ok (.aload_n 0, 1) := by decide +kernel
theorem d187_61 : decode method_46_code 61 = .ok (.bipush 61, 2) := by decide +kernel
theorem d187_63 : decode method_46_code 63 = .ok (.invokestatic 145, 3) := by decide +kernel
theorem k187_145_99 : xCa (xMo 187) 145 99 = some (0, 211, 2) := by decide +kernel
theorem d187_66 : decode method_46_code 66 = .ok (.ifCond .le 7, 3) := by decide +kernel
theorem d187_69 : decode method_46_code 69 = .ok (.iconst 1, 1) := by decide +kernel
theorem d187_70 : decode method_46_code 70 = .ok (.goto 4, 3) := by decide +kernel
theorem d187_73 : decode method_46_code 73 = .ok (.iconst 0, 1) := by decide +kernel
theorem d187_74 : decode method_46_code 74 = .ok (.istore_n 3, 1) := by decide +kernel
theorem d187_75 : decode method_46_code 75 = .ok (.iconst 0, 1) := by decide +kernel
theorem d187_76 : decode method_46_code 76 = .ok (.istore 5, 2) := by decide +kernel
theorem d187_78 : decode method_46_code 78 = .ok (.iload 5, 2) := by decide +kernel
theorem d187_80 : decode method_46_code 80 = .ok (.iload 4, 2) := by decide +kernel
theorem d187_82 : decode method_46_code 82 = .ok (.if_icmp .ge 523, 3) := by decide +kernel
theorem d187_85 : decode method_46_code 85 = .ok (.iload 5, 2) := by decide +kernel
theorem d187_87 : decode method_46_code 87 = .ok (.ifCond .ne 9, 3) := by decide +kernel
theorem d187_90 : decode method_46_code 90 = .ok (.iload_n 1, 1) := by decide +kernel
theorem d187_91 : decode method_46_code 91 = .ok (.iconst 5, 1) := by decide +kernel
theorem d187_92 : decode method_46_code 92 = .ok (.ishr, 1) := by decide +kernel
theorem d187_93 : decode method_46_code 93 = .ok (.goto 4, 3) := by decide +kernel
theorem d187_96 : decode method_46_code 96 = .ok (.iload_n 2, 1) := by decide +kernel
theorem d187_97 : decode method_46_code 97 = .ok (.ldc 8, 2) := by decide +kernel
theorem d187_99 : decode method_46_code 99 = .ok (.iand, 1) := by decide +kernel
theorem d187_100 : decode method_46_code 100 = .ok (.istore 6, 2) := by decide +kernel
theorem d187_102 : decode method_46_code 102 = .ok (.iload 6, 2) := by decide +kernel
theorem d187_104 : decode method_46_code 104 = .ok (.bipush 11, 2) := by decide +kernel
theorem d187_106 : decode method_46_code 106 = .ok (.irem, 1) := by decide +kernel
theorem d187_107 : decode method_46_code 107 = .ok (.istore 7, 2) := by decide +kernel
theorem d187_109 : decode method_46_code 109 = .ok (.iload_n 3, 1) := by decide +kernel
theorem d187_110 : decode method_46_code 110 = .ok (.ifCond .eq 88, 3) := by decide +kernel
theorem d187_113 : decode method_46_code 113 = .ok (.iload 5, 2) := by decide +kernel
theorem d187_115 : decode method_46_code 115 = .ok (.ifCond .eq 59, 3) := by decide +kernel
theorem d187_118 : decode method_46_code 118 = .ok (.aload_n 0, 1) := by decide +kernel
theorem d187_119 : decode method_46_code 119 = .ok (.iload 6, 2) := by decide +kernel
theorem d187_121 : decode method_46_code 121 = .ok (.bipush 11, 2) := by decide +kernel
theorem d187_123 : decode method_46_code 123 = .ok (.idiv, 1) := by decide +kernel
theorem d187_124 : decode method_46_code 124 = .ok (.iconst 5, 1) := by decide +kernel
theorem d187_125 : decode method_46_code 125 = .ok (.irem, 1) := by decide +kernel
theorem d187_126 : decode method_46_code 126 = .ok (.ifCond .ne 8, 3) := by decide +kernel
theorem d187_129 : decode method_46_code 129 = .ok (.bipush 42, 2) := by decide +kernel
theorem d187_131 : decode method_46_code 131 = .ok (.goto 37, 3) := by decide +kernel
theorem d187_134 : decode method_46_code 134 = .ok (.iload 6, 2) := by decide +kernel
theorem d187_136 : decode method_46_code 136 = .ok (.bipush 11, 2) := by decide +kernel
theorem d187_138 : decode method_46_code 138 = .ok (.idiv, 1) := by decide +kernel
theorem d187_139 : decode method_46_code 139 = .ok (.iconst 5, 1) := by decide +kernel
theorem d187_140 : decode method_46_code 140 = .ok (.irem, 1) := by decide +kernel
theorem d187_141 : decode method_46_code 141 = .ok (.iconst 1, 1) := by decide +kernel
theorem d187_142 : decode method_46_code 142 = .ok (.if_icmp .ne 8, 3) := by decide +kernel
theorem d187_145 : decode method_46_code 145 = .ok (.bipush 47, 2) := by decide +kernel
theorem d187_147 : decode method_46_code 147 = .ok (.goto 21, 3) := by decide +kernel
theorem d187_150 : decode method_46_code 150 = .ok (.iload 6, 2) := by decide +kernel
theorem d187_152 : decode method_46_code 152 = .ok (.bipush 11, 2) := by decide +kernel
theorem d187_154 : decode method_46_code 154 = .ok (.idiv, 1) := by decide +kernel
theorem d187_155 : decode method_46_code 155 = .ok (.iconst 5, 1) := by decide +kernel
theorem d187_156 : decode method_46_code 156 = .ok (.irem, 1) := by decide +kernel
theorem d187_157 : decode method_46_code 157 = .ok (.iconst 2, 1) := by decide +kernel
theorem d187_158 : decode method_46_code 158 = .ok (.if_icmp .ne 8, 3) := by decide +kernel
theorem d187_161 : decode method_46_code 161 = .ok (.bipush 45, 2) := by decide +kernel
theorem d187_163 : decode method_46_code 163 = .ok (.goto 5, 3) := by decide +kernel
theorem d187_166 : decode method_46_code 166 = .ok (.bipush 43, 2) := by decide +kernel
theorem d187_168 : decode method_46_code 168 = .ok (.invokestatic 145, 3) := by decide +kernel
theorem d187_171 : decode method_46_code 171 = .ok (.ifCond .le 27, 3) := by decide +kernel
theorem d187_174 : decode method_46_code 174 = .ok (.iload 6, 2) := by decide +kernel
theorem d187_176 : decode method_46_code 176 = .ok (.bipush 64, 2) := by decide +kernel
theorem d187_178 : decode method_46_code 178 = .ok (.idiv, 1) := by decide +kernel
theorem d187_179 : decode method_46_code 179 = .ok (.bipush 9, 2) := by decide +kernel
theorem d187_181 : decode method_46_code 181 = .ok (.irem, 1) := by decide +kernel
theorem d187_182 : decode method_46_code 182 = .ok (.ifCond .gt 12, 3) := by decide +kernel
theorem d187_185 : decode method_46_code 185 = .ok (.aload_n 0, 1) := by decide +kernel
theorem d187_186 : decode method_46_code 186 = .ok (.bipush 45, 2) := by decide +kernel
theorem d187_188 : decode method_46_code 188 = .ok (.invokestatic 145, 3) := by decide +kernel
theorem d187_191 : decode method_46_code 191 = .ok (.ifCond .le 7, 3) := by decide +kernel
theorem d187_194 : decode method_46_code 194 = .ok (.iconst 1, 1) := by decide +kernel
theorem d187_195 : decode method_46_code 195 = .ok (.goto 4, 3) := by decide +kernel
theorem d187_198 : decode method_46_code 198 = .ok (.iconst 0, 1) := by decide +kernel
theorem d187_199 : decode method_46_code 199 = .ok (.istore_n 3, 1) := by decide +kernel
theorem d187_200 : decode method_46_code 200 = .ok (.iload 7, 2) := by decide +kernel
theorem d187_202 : decode method_46_code 202 = .ok (.iconst 5, 1) := by decide +kernel
theorem d187_203 : decode method_46_code 203 = .ok (.if_icmp .ge 27, 3) := by decide +kernel
theorem d187_206 : decode method_46_code 206 = .ok (.iload_n 3, 1) := by decide +kernel
theorem d187_207 : decode method_46_code 207 = .ok (.ifCond .eq 18, 3) := by decide +kernel
theorem d187_210 : decode method_46_code 210 = .ok (.aload_n 0, 1) := by decide +kernel
theorem d187_211 : decode method_46_code 211 = .ok (.iload 6, 2) := by decide +kernel
theorem d187_213 : decode method_46_code 213 = .ok (.iconst 4, 1) := by decide +kernel
theorem d187_214 : decode method_46_code 214 = .ok (.ishr, 1) := by decide +kernel
theorem d187_215 : decode method_46_code 215 = .ok (.invokestatic 160, 3) := by decide +kernel
theorem k187_160_99 : xCa (xMo 187) 160 99 = some (0, 206, 2) := by decide +kernel
theorem d187_218 : decode method_46_code 218 = .ok (.ifCond .eq 7, 3) := by decide +kernel
theorem d187_221 : decode method_46_code 221 = .ok (.iconst 1, 1) := by decide +kernel
theorem d187_222 : decode method_46_code 222 = .ok (.goto 4, 3) := by decide +kernel
theorem d187_225 : decode method_46_code 225 = .ok (.iconst 0, 1) := by decide +kernel
theorem d187_226 : decode method_46_code 226 = .ok (.istore_n 3, 1) := by decide +kernel
theorem d187_227 : decode method_46_code 227 = .ok (.goto 372, 3) := by decide +kernel
theorem d187_230 : decode method_46_code 230 = .ok (.iload 7, 2) := by decide +kernel
theorem d187_232 : decode method_46_code 232 = .ok (.bipush 7, 2) := by decide +kernel
theorem d187_234 : decode method_46_code 234 = .ok (.if_icmp .ge 31, 3) := by decide +kernel
theorem d187_237 : decode method_46_code 237 = .ok (.iload_n 3, 1) := by decide +kernel
theorem d187_238 : decode method_46_code 238 = .ok (.ifCond .eq 22, 3) := by decide +kernel
theorem d187_241 : decode method_46_code 241 = .ok (.aload_n 0, 1) := by decide +kernel
theorem d187_242 : decode method_46_code 242 = .ok (.iload 6, 2) := by decide +kernel
theorem d187_244 : decode method_46_code 244 = .ok (.bipush 16, 2) := by decide +kernel
theorem d187_246 : decode method_46_code 246 = .ok (.idiv, 1) := by decide +kernel
theorem d187_247 : decode method_46_code 247 = .ok (.bipush 100, 2) := by decide +kernel
theorem d187_249 : decode method_46_code 249 = .ok (.irem, 1) := by decide +kernel
theorem d187_250 : decode method_46_code 250 = .ok (.invokestatic 153, 3) := by decide +kernel
theorem d187_253 : decode method_46_code 253 = .ok (.ifCond .eq 7, 3) := by decide +kernel
theorem d187_256 : decode method_46_code 256 = .ok (.iconst 1, 1) := by decide +kernel
theorem d187_257 : decode method_46_code 257 = .ok (.goto 4, 3) := by decide +kernel
theorem d187_260 : decode method_46_code 260 = .ok (.iconst 0, 1) := by decide +kernel
theorem d187_261 : decode method_46_code 261 = .ok (.istore_n 3, 1) := by decide +kernel
theorem d187_262 : decode method_46_code 262 = .ok (.goto 337, 3) := by decide +kernel
theorem d187_265 : decode method_46_code 265 = .ok (.iload 7, 2) := by decide +kernel
theorem d187_267 : decode method_46_code 267 = .ok (.bipush 9, 2) := by decide +kernel
theorem d187_269 : decode method_46_code 269 = .ok (.if_icmp .ge 133, 3) := by decide +kernel
theorem d187_272 : decode method_46_code 272 = .ok (.iload_n 3, 1) := by decide +kernel
theorem d187_273 : decode method_46_code 273 = .ok (.ifCond .eq 124, 3) := by decide +kernel
theorem d187_276 : decode method_46_code 276 = .ok (.aload_n 0, 1) := by decide +kernel
theorem d187_277 : decode method_46_code 277 = .ok (.iload 7, 2) := by decide +kernel
theorem d187_279 : decode method_46_code 279 = .ok (.bipush 7, 2) := by decide +kernel
theorem d187_281 : decode method_46_code 281 = .ok (.if_icmp .ne 9, 3) := by decide +kernel
theorem d187_284 : decode method_46_code 284 = .ok (.ldc2_w 163, 3) := by decide +kernel
theorem d187_287 : decode method_46_code 287 = .ok (.goto 23, 3) := by decide +kernel
theorem d187_290 : decode method_46_code 290 = .ok (.iload 6, 2) := by decide +kernel
theorem d187_292 : decode method_46_code 292 = .ok (.sipush 128, 3) := by decide +kernel
theorem d187_295 : decode method_46_code 295 = .ok (.idiv, 1) := by decide +kernel
theorem d187_296 : decode method_46_code 296 = .ok (.iconst 2, 1) := by decide +kernel
theorem d187_297 : decode method_46_code 297 = .ok (.irem, 1) := by decide +kernel
theorem d187_298 : decode method_46_code 298 = .ok (.ifCond .ne 9, 3) := by decide +kernel
theorem d187_301 : decode method_46_code 301 = .ok (.ldc2_w 165, 3) := by decide +kernel
theorem d187_304 : decode method_46_code 304 = .ok (.goto 6, 3) := by decide +kernel
theorem d187_307 : decode method_46_code 307 = .ok (.ldc2_w 167, 3) := by decide +kernel
theorem d187_310 : decode method_46_code 310 = .ok (.invokestatic 169, 3) := by decide +kernel
theorem k187_169_99 : xCa (xMo 187) 169 99 = some (0, 216, 2) := by decide +kernel
theorem d187_313 : decode method_46_code 313 = .ok (.ifCond .eq 84, 3) := by decide +kernel
theorem d187_316 : decode method_46_code 316 = .ok (.aload_n 0, 1) := by decide +kernel
theorem d187_317 : decode method_46_code 317 = .ok (.iload 6, 2) := by decide +kernel
theorem d187_319 : decode method_46_code 319 = .ok (.iconst 3, 1) := by decide +kernel
theorem d187_320 : decode method_46_code 320 = .ok (.ishr, 1) := by decide +kernel
theorem d187_321 : decode method_46_code 321 = .ok (.invokestatic 160, 3) := by decide +kernel
theorem d187_324 : decode method_46_code 324 = .ok (.ifCond .eq 73, 3) := by decide +kernel
theorem d187_327 : decode method_46_code 327 = .ok (.aload_n 0, 1) := by decide +kernel
theorem d187_328 : decode method_46_code 328 = .ok (.bipush 58, 2) := by decide +kernel
theorem d187_330 : decode method_46_code 330 = .ok (.invokestatic 145, 3) := by decide +kernel
theorem d187_333 : decode method_46_code 333 = .ok (.ifCond .le 64, 3) := by decide +kernel
theorem d187_336 : decode method_46_code 336 = .ok (.aload_n 0, 1) := by decide +kernel
theorem d187_337 : decode method_46_code 337 = .ok (.iload 6, 2) := by decide +kernel
theorem d187_339 : decode method_46_code 339 = .ok (.bipush 6, 2) := by decide +kernel
theorem d187_341 : decode method_46_code 341 = .ok (.ishr, 1) := by decide +kernel
theorem d187_342 : decode method_46_code 342 = .ok (.invokestatic 160, 3) := by decide +kernel
theorem d187_345 : decode method_46_code 345 = .ok (.ifCond .eq 52, 3) := by decide +kernel
theorem d187_348 : decode method_46_code 348 = .ok (.iload 6, 2) := by decide +kernel
theorem d187_350 : decode method_46_code 350 = .ok (.sipush 256, 3) := by decide +kernel
theorem d187_353 : decode method_46_code 353 = .ok (.idiv, 1) := by decide +kernel
theorem d187_354 : decode method_46_code 354 = .ok (.iconst 3, 1) := by decide +kernel
theorem d187_355 : decode method_46_code 355 = .ok (.irem, 1) := by decide +kernel
theorem d187_356 : decode method_46_code 356 = .ok (.ifCond .gt 28, 3) := by decide +kernel
theorem d187_359 : decode method_46_code 359 = .ok (.aload_n 0, 1) := by decide +kernel
theorem d187_360 : decode method_46_code 360 = .ok (.bipush 44, 2) := by decide +kernel
theorem d187_362 : decode method_46_code 362 = .ok (.invokestatic 145, 3) := by decide +kernel
theorem d187_365 : decode method_46_code 365 = .ok (.ifCond .le 32, 3) := by decide +kernel
theorem d187_368 : decode method_46_code 368 = .ok (.aload_n 0, 1) := by decide +kernel
theorem d187_369 : decode method_46_code 369 = .ok (.iload 6, 2) := by decide +kernel
theorem d187_371 : decode method_46_code 371 = .ok (.sipush 512, 3) := by decide +kernel
theorem d187_374 : decode method_46_code 374 = .ok (.idiv, 1) := by decide +kernel
theorem d187_375 : decode method_46_code 375 = .ok (.bipush 20, 2) := by decide +kernel
theorem d187_377 : decode method_46_code 377 = .ok (.irem, 1) := by decide +kernel
theorem d187_378 : decode method_46_code 378 = .ok (.invokestatic 153, 3) := by decide +kernel
theorem d187_381 : decode method_46_code 381 = .ok (.ifCond .eq 16, 3) := by decide +kernel
theorem d187_384 : decode method_46_code 384 = .ok (.aload_n 0, 1) := by decide +kernel
theorem d187_385 : decode method_46_code 385 = .ok (.bipush 41, 2) := by decide +kernel
theorem d187_387 : decode method_46_code 387 = .ok (.invokestatic 145, 3) := by decide +kernel
theorem d187_390 : decode method_46_code 390 = .ok (.ifCond .le 7, 3) := by decide +kernel
theorem d187_393 : decode method_46_code 393 = .ok (.iconst 1, 1) := by decide +kernel
theorem d187_394 : decode method_46_code 394 = .ok (.goto 4, 3) := by decide +kernel
theorem d187_397 : decode method_46_code 397 = .ok (.iconst 0, 1) := by decide +kernel
theorem d187_398 : decode method_46_code 398 = .ok (.istore_n 3, 1) := by decide +kernel
theorem d187_399 : decode method_46_code 399 = .ok (.goto 200, 3) := by decide +kernel
theorem d187_402 : decode method_46_code 402 = .ok (.iload 7, 2) := by decide +kernel
theorem d187_404 : decode method_46_code 404 = .ok (.bipush 9, 2) := by decide +kernel
theorem d187_406 : decode method_46_code 406 = .ok (.if_icmp .ne 133, 3) := by decide +kernel
theorem d187_409 : decode method_46_code 409 = .ok (.iload_n 3, 1) := by decide +kernel
theorem d187_410 : decode method_46_code 410 = .ok (.ifCond .eq 124, 3) := by decide +kernel
theorem d187_413 : decode method_46_code 413 = .ok (.aload_n 0, 1) := by decide +kernel
theorem d187_414 : decode method_46_code 414 = .ok (.ldc2_w 173, 3) := by decide +kernel
theorem d187_417 : decode method_46_code 417 = .ok (.invokestatic 169, 3) := by decide +kernel
theorem d187_420 : decode method_46_code 420 = .ok (.ifCond .eq 114, 3) := by decide +kernel
theorem d187_423 : decode method_46_code 423 = .ok (.aload_n 0, 1) := by decide +kernel
theorem d187_424 : decode method_46_code 424 = .ok (.iload 6, 2) := by decide +kernel
theorem d187_426 : decode method_46_code 426 = .ok (.iconst 5, 1) := by decide +kernel
theorem d187_427 : decode method_46_code 427 = .ok (.ishr, 1) := by decide +kernel
theorem d187_428 : decode method_46_code 428 = .ok (.invokestatic 160, 3) := by decide +kernel
theorem d187_431 : decode method_46_code 431 = .ok (.ifCond .eq 103, 3) := by decide +kernel
theorem d187_434 : decode method_46_code 434 = .ok (.aload_n 0, 1) := by decide +kernel
theorem d187_435 : decode method_46_code 435 = .ok (.iload 6, 2) := by decide +kernel
theorem d187_437 : decode method_46_code 437 = .ok (.sipush 128, 3) := by decide +kernel
theorem d187_440 : decode method_46_code 440 = .ok (.idiv, 1) := by decide +kernel
theorem d187_441 : decode method_46_code 441 = .ok (.iconst 2, 1) := by decide +kernel
theorem d187_442 : decode method_46_code 442 = .ok (.irem, 1) := by decide +kernel
theorem d187_443 : decode method_46_code 443 = .ok (.ifCond .ne 8, 3) := by decide +kernel
theorem d187_446 : decode method_46_code 446 = .ok (.bipush 60, 2) := by decide +kernel
theorem d187_448 : decode method_46_code 448 = .ok (.goto 5, 3) := by decide +kernel
theorem d187_451 : decode method_46_code 451 = .ok (.bipush 61, 2) := by decide +kernel
theorem d187_453 : decode method_46_code 453 = .ok (.invokestatic 145, 3) := by decide +kernel
theorem d187_456 : decode method_46_code 456 = .ok (.ifCond .le 78, 3) := by decide +kernel
theorem d187_459 : decode method_46_code 459 = .ok (.aload_n 0, 1) := by decide +kernel
theorem d187_460 : decode method_46_code 460 = .ok (.iload 6, 2) := by decide +kernel
theorem d187_462 : decode method_46_code 462 = .ok (.sipush 256, 3) := by decide +kernel
theorem d187_465 : decode method_46_code 465 = .ok (.idiv, 1) := by decide +kernel
theorem d187_466 : decode method_46_code 466 = .ok (.bipush 9, 2) := by decide +kernel
theorem d187_468 : decode method_46_code 468 = .ok (.irem, 1) := by decide +kernel
theorem d187_469 : decode method_46_code 469 = .ok (.invokestatic 153, 3) := by decide +kernel
theorem d187_472 : decode method_46_code 472 = .ok (.ifCond .eq 62, 3) := by decide +kernel
theorem d187_475 : decode method_46_code 475 = .ok (.aload_n 0, 1) := by decide +kernel
theorem d187_476 : decode method_46_code 476 = .ok (.bipush 44, 2) := by decide +kernel
theorem d187_478 : decode method_46_code 478 = .ok (.invokestatic 145, 3) := by decide +kernel
theorem d187_481 : decode method_46_code 481 = .ok (.ifCond .le 53, 3) := by decide +kernel
theorem d187_484 : decode method_46_code 484 = .ok (.aload_n 0, 1) := by decide +kernel
theorem d187_485 : decode method_46_code 485 = .ok (.iload 6, 2) := by decide +kernel
theorem d187_487 : decode method_46_code 487 = .ok (.sipush 1024, 3) := by decide +kernel
theorem d187_490 : decode method_46_code 490 = .ok (.idiv, 1) := by decide +kernel
theorem d187_491 : decode method_46_code 491 = .ok (.bipush 50, 2) := by decide +kernel
theorem d187_493 : decode method_46_code 493 = .ok (.irem, 1) := by decide +kernel
theorem d187_494 : decode method_46_code 494 = .ok (.invokestatic 153, 3) := by decide +kernel
theorem d187_497 : decode method_46_code 497 = .ok (.ifCond .eq 37, 3) := by decide +kernel
theorem d187_500 : decode method_46_code 500 = .ok (.aload_n 0, 1) := by decide +kernel
theorem d187_501 : decode method_46_code 501 = .ok (.bipush 44, 2) := by decide +kernel
theorem d187_503 : decode method_46_code 503 = .ok (.invokestatic 145, 3) := by decide +kernel
theorem d187_506 : decode method_46_code 506 = .ok (.ifCond .le 28, 3) := by decide +kernel
theorem d187_509 : decode method_46_code 509 = .ok (.aload_n 0, 1) := by decide +kernel
theorem d187_510 : decode method_46_code 510 = .ok (.iload 6, 2) := by decide +kernel
theorem d187_512 : decode method_46_code 512 = .ok (.bipush 8, 2) := by decide +kernel
theorem d187_514 : decode method_46_code 514 = .ok (.ishr, 1) := by decide +kernel
theorem d187_515 : decode method_46_code 515 = .ok (.invokestatic 160, 3) := by decide +kernel
theorem d187_518 : decode method_46_code 518 = .ok (.ifCond .eq 16, 3) := by decide +kernel
theorem d187_521 : decode method_46_code 521 = .ok (.aload_n 0, 1) := by decide +kernel
theorem d187_522 : decode method_46_code 522 = .ok (.bipush 41, 2) := by decide +kernel
theorem d187_524 : decode method_46_code 524 = .ok (.invokestatic 145, 3) := by decide +kernel
theorem d187_527 : decode method_46_code 527 = .ok (.ifCond .le 7, 3) := by decide +kernel
theorem d187_530 : decode method_46_code 530 = .ok (.iconst 1, 1) := by decide +kernel
theorem d187_531 : decode method_46_code 531 = .ok (.goto 4, 3) := by decide +kernel
theorem d187_534 : decode method_46_code 534 = .ok (.iconst 0, 1) := by decide +kernel
theorem d187_535 : decode method_46_code 535 = .ok (.istore_n 3, 1) := by decide +kernel
theorem d187_536 : decode method_46_code 536 = .ok (.goto 63, 3) := by decide +kernel
theorem d187_539 : decode method_46_code 539 = .ok (.iload_n 3, 1) := by decide +kernel
theorem d187_540 : decode method_46_code 540 = .ok (.ifCond .eq 57, 3) := by decide +kernel
theorem d187_543 : decode method_46_code 543 = .ok (.aload_n 0, 1) := by decide +kernel
theorem d187_544 : decode method_46_code 544 = .ok (.bipush 40, 2) := by decide +kernel
theorem d187_546 : decode method_46_code 546 = .ok (.invokestatic 145, 3) := by decide +kernel
theorem d187_549 : decode method_46_code 549 = .ok (.ifCond .le 48, 3) := by decide +kernel
theorem d187_552 : decode method_46_code 552 = .ok (.aload_n 0, 1) := by decide +kernel
theorem d187_553 : decode method_46_code 553 = .ok (.iload 6, 2) := by decide +kernel
theorem d187_555 : decode method_46_code 555 = .ok (.iconst 5, 1) := by decide +kernel
theorem d187_556 : decode method_46_code 556 = .ok (.ishr, 1) := by decide +kernel
theorem d187_557 : decode method_46_code 557 = .ok (.invokestatic 160, 3) := by decide +kernel
theorem d187_560 : decode method_46_code 560 = .ok (.ifCond .eq 37, 3) := by decide +kernel
theorem d187_563 : decode method_46_code 563 = .ok (.aload_n 0, 1) := by decide +kernel
theorem d187_564 : decode method_46_code 564 = .ok (.bipush 62, 2) := by decide +kernel
theorem d187_566 : decode method_46_code 566 = .ok (.invokestatic 145, 3) := by decide +kernel
theorem d187_569 : decode method_46_code 569 = .ok (.ifCond .le 28, 3) := by decide +kernel
theorem d187_572 : decode method_46_code 572 = .ok (.aload_n 0, 1) := by decide +kernel
theorem d187_573 : decode method_46_code 573 = .ok (.iload 6, 2) := by decide +kernel
theorem d187_575 : decode method_46_code 575 = .ok (.bipush 9, 2) := by decide +kernel
theorem d187_577 : decode method_46_code 577 = .ok (.ishr, 1) := by decide +kernel
theorem d187_578 : decode method_46_code 578 = .ok (.invokestatic 160, 3) := by decide +kernel
theorem d187_581 : decode method_46_code 581 = .ok (.ifCond .eq 16, 3) := by decide +kernel
theorem d187_584 : decode method_46_code 584 = .ok (.aload_n 0, 1) := by decide +kernel
theorem d187_585 : decode method_46_code 585 = .ok (.bipush 41, 2) := by decide +kernel
theorem d187_587 : decode method_46_code 587 = .ok (.invokestatic 145, 3) := by decide +kernel
theorem d187_590 : decode method_46_code 590 = .ok (.ifCond .le 7, 3) := by decide +kernel
theorem d187_593 : decode method_46_code 593 = .ok (.iconst 1, 1) := by decide +kernel
theorem d187_594 : decode method_46_code 594 = .ok (.goto 4, 3) := by decide +kernel
theorem d187_597 : decode method_46_code 597 = .ok (.iconst 0, 1) := by decide +kernel
theorem d187_598 : decode method_46_code 598 = .ok (.istore_n 3, 1) := by decide +kernel
theorem d187_599 : decode method_46_code 599 = .ok (.iinc 5 1, 3) := by decide +kernel
theorem d187_602 : decode method_46_code 602 = .ok (.goto (-524), 3) := by decide +kernel
theorem d187_605 : decode method_46_code 605 = .ok (.iload_n 3, 1) := by decide +kernel
theorem d187_606 : decode method_46_code 606 = .ok (.ireturn, 1) := by decide +kernel
set_option maxRecDepth 100000 in
theorem q188 : xMc 188 = method_5_code := rfl
theorem m188 : xMl 188 = 3 ∧ xMret 188 = (some FieldType.int) := by decide +kernel
theorem e188 {X : xX} {d : Nat} {w : xH} {Q : xO → xH → Prop} (x0 : Nat) (x1 : Int32) : Cw X d 188 [.ref x0, .int x1] w Q = Wx X d 188 0 [some (.ref x0), some (.int x1), none] [] w Q := by
  unfold Cw
  rw [m188.1]
  rfl
theorem d188_0 : decode method_5_code 0 = .ok (.aload_n 0, 1) := by decide +kernel
theorem d188_1 : decode method_5_code 1 = .ok (.iload_n 1, 1) := by decide +kernel
theorem d188_2 : decode method_5_code 2 = .ok (.invokevirtual 21, 3) := by decide +kernel
theorem k188_21_10 : xCa (xMo 188) 21 10 = some (1, 14, 1) := by decide +kernel
theorem n188_21 : xcn (xMo 188) 21 = some 1 := by decide +kernel
theorem d188_5 : decode method_5_code 5 = .ok (.ireturn, 1) := by decide +kernel
theorem d188_6 : decode method_5_code 6 = .ok (.astore_n 2, 1) := by decide +kernel
theorem d188_7 : decode method_5_code 7 = .ok (.ldc 17, 2) := by decide +kernel
theorem d188_9 : decode method_5_code 9 = .ok (.ireturn, 1) := by decide +kernel
theorem d188_10 : decode method_5_code 10 = .ok (.astore_n 2, 1) := by decide +kernel
theorem d188_11 : decode method_5_code 11 = .ok (.ldc 20, 2) := by decide +kernel
theorem d188_13 : decode method_5_code 13 = .ok (.ireturn, 1) := by decide +kernel
set_option maxRecDepth 100000 in
theorem q189 : xMc 189 = method_52_code := rfl
theorem m189 : xMl 189 = 11 ∧ xMret 189 = (some FieldType.boolean) ∧ xMh 189 = [] := by decide +kernel
theorem e189 {X : xX} {d : Nat} {w : xH} {Q : xO → xH → Prop} (x0 : Nat) (x1 : Int32) (x2 : Int32) (x3 : Int32) : Cw X d 189 [.ref x0, .int x1, .int x2, .int x3] w Q = Wx X d 189 0 [some (.ref x0), some (.int x1), some (.int x2), some (.int x3), none, none, none, none, none, none, none] [] w Q := by
  unfold Cw
  rw [m189.1]
  rfl
theorem d189_0 : decode method_52_code 0 = .ok (.aload_n 0, 1) := by decide +kernel
theorem d189_1 : decode method_52_code 1 = .ok (.iload_n 1, 1) := by decide +kernel
theorem d189_2 : decode method_52_code 2 = .ok (.iload_n 2, 1) := by decide +kernel
theorem d189_3 : decode method_52_code 3 = .ok (.invokestatic 245, 3) := by decide +kernel
theorem k189_245_99 : xCa (xMo 189) 245 99 = some (0, 187, 3) := by decide +kernel
theorem d189_6 : decode method_52_code 6 = .ok (.istore 4, 2) := by decide +kernel
theorem d189_8 : decode method_52_code 8 = .ok (.iload_n 2, 1) := by decide +kernel
theorem d189_9 : decode method_52_code 9 = .ok (.bipush 21, 2) := by decide +kernel
theorem d189_11 : decode method_52_code 11 = .ok (.ishr, 1) := by decide +kernel
theorem d189_12 : decode method_52_code 12 = .ok (.bipush 9, 2) := by decide +kernel
theorem d189_14 : decode method_52_code 14 = .ok (.invokestatic 150, 3) := by decide +kernel
theorem k189_150_99 : xCa (xMo 189) 150 99 = some (0, 201, 2) := by decide +kernel
theorem d189_17 : decode method_52_code 17 = .ok (.ifCond .ne 7, 3) := by decide +kernel
theorem d189_20 : decode method_52_code 20 = .ok (.iconst 1, 1) := by decide +kernel
theorem d189_21 : decode method_52_code 21 = .ok (.goto 4, 3) := by decide +kernel
theorem d189_24 : decode method_52_code 24 = .ok (.iconst 0, 1) := by decide +kernel
theorem d189_25 : decode method_52_code 25 = .ok (.istore 5, 2) := by decide +kernel
theorem d189_27 : decode method_52_code 27 = .ok (.iload 4, 2) := by decide +kernel
theorem d189_29 : decode method_52_code 29 = .ok (.ifCond .eq 37, 3) := by decide +kernel
theorem d189_32 : decode method_52_code 32 = .ok (.iload 5, 2) := by decide +kernel
theorem d189_34 : decode method_52_code 34 = .ok (.ifCond .eq 28, 3) := by decide +kernel
theorem d189_37 : decode method_52_code 37 = .ok (.aload_n 0, 1) := by decide +kernel
theorem d189_38 : decode method_52_code 38 = .ok (.iload_n 2, 1) := by decide +kernel
theorem d189_39 : decode method_52_code 39 = .ok (.bipush 19, 2) := by decide +kernel
theorem d189_41 : decode method_52_code 41 = .ok (.ishr, 1) := by decide +kernel
theorem d189_42 : decode method_52_code 42 = .ok (.iconst 2, 1) := by decide +kernel
theorem d189_43 : decode method_52_code 43 = .ok (.invokestatic 150, 3) := by decide +kernel
theorem d189_46 : decode method_52_code 46 = .ok (.ifCond .ne 8, 3) := by decide +kernel
theorem d189_49 : decode method_52_code 49 = .ok (.bipush 59, 2) := by decide +kernel
theorem d189_51 : decode method_52_code 51 = .ok (.goto 5, 3) := by decide +kernel
theorem d189_54 : decode method_52_code 54 = .ok (.bipush 41, 2) := by decide +kernel
theorem d189_56 : decode method_52_code 56 = .ok (.invokestatic 145, 3) := by decide +kernel
theorem k189_145_99 : xCa (xMo 189) 145 99 = some (0, 211, 2) := by decide +kernel
theorem d189_59 : decode method_52_code 59 = .ok (.ifCond .le 7, 3) := by decide +kernel
theorem d189_62 : decode method_52_code 62 = .ok (.iconst 1, 1) := by decide +kernel
theorem d189_63 : decode method_52_code 63 = .ok (.goto 4, 3) := by decide +kernel
theorem d189_66 : decode method_52_code 66 = .ok (.iconst 0, 1) := by decide +kernel
theorem d189_67 : decode method_52_code 67 = .ok (.istore 4, 2) := by decide +kernel
theorem d189_69 : decode method_52_code 69 = .ok (.aload_n 0, 1) := by decide +kernel
theorem d189_70 : decode method_52_code 70 = .ok (.invokevirtual 249, 3) := by decide +kernel
theorem k189_249_10 : xCa (xMo 189) 249 10 = some (1, 2, 0) := by decide +kernel
theorem n189_249 : xcn (xMo 189) 249 = some 0 := by decide +kernel
theorem d189_73 : decode method_52_code 73 = .ok (.istore 6, 2) := by decide +kernel
theorem d189_75 : decode method_52_code 75 = .ok (.aload_n 0, 1) := by decide +kernel
theorem d189_76 : decode method_52_code 76 = .ok (.invokevirtual 182, 3) := by decide +kernel
theorem k189_182_10 : xCa (xMo 189) 182 10 = some (1, 10, 0) := by decide +kernel
theorem n189_182 : xcn (xMo 189) 182 = some 0 := by decide +kernel
theorem d189_79 : decode method_52_code 79 = .ok (.istore 7, 2) := by decide +kernel
theorem d189_81 : decode method_52_code 81 = .ok (.aload_n 0, 1) := by decide +kernel
theorem d189_82 : decode method_52_code 82 = .ok (.iload_n 3, 1) := by decide +kernel
theorem d189_83 : decode method_52_code 83 = .ok (.invokestatic 252, 3) := by decide +kernel
theorem k189_252_99 : xCa (xMo 189) 252 99 = some (0, 188, 2) := by decide +kernel
theorem d189_86 : decode method_52_code 86 = .ok (.istore 8, 2) := by decide +kernel
theorem d189_88 : decode method_52_code 88 = .ok (.aload_n 0, 1) := by decide +kernel
theorem d189_89 : decode method_52_code 89 = .ok (.invokevirtual 157, 3) := by decide +kernel
theorem k189_157_10 : xCa (xMo 189) 157 10 = some (1, 1, 0) := by decide +kernel
theorem n189_157 : xcn (xMo 189) 157 = some 0 := by decide +kernel
theorem d189_92 : decode method_52_code 92 = .ok (.istore 9, 2) := by decide +kernel
theorem d189_94 : decode method_52_code 94 = .ok (.iload_n 3, 1) := by decide +kernel
theorem d189_95 : decode method_52_code 95 = .ok (.sipush 200, 3) := by decide +kernel
theorem d189_98 : decode method_52_code 98 = .ok (.if_icmp .eq 8, 3) := by decide +kernel
theorem d189_101 : decode method_52_code 101 = .ok (.iload 5, 2) := by decide +kernel
theorem d189_103 : decode method_52_code 103 = .ok (.ifCond .eq 60, 3) := by decide +kernel
theorem d189_106 : decode method_52_code 106 = .ok (.iload 4, 2) := by decide +kernel
theorem d189_108 : decode method_52_code 108 = .ok (.ifCond .eq 53, 3) := by decide +kernel
theorem d189_111 : decode method_52_code 111 = .ok (.iload 8, 2) := by decide +kernel
theorem d189_113 : decode method_52_code 113 = .ok (.iload_n 3, 1) := by decide +kernel
theorem d189_114 : decode method_52_code 114 = .ok (.sipush 200, 3) := by decide +kernel
theorem d189_117 : decode method_52_code 117 = .ok (.if_icmp .ne 8, 3) := by decide +kernel
theorem d189_120 : decode method_52_code 120 = .ok (.ldc 17, 2) := by decide +kernel
theorem d189_122 : decode method_52_code 122 = .ok (.goto 5, 3) := by decide +kernel
theorem d189_125 : decode method_52_code 125 = .ok (.ldc 20, 2) := by decide +kernel
theorem d189_127 : decode method_52_code 127 = .ok (.if_icmp .ne 34, 3) := by decide +kernel
theorem d189_130 : decode method_52_code 130 = .ok (.iload 6, 2) := by decide +kernel
theorem d189_132 : decode method_52_code 132 = .ok (.iload 5, 2) := by decide +kernel
theorem d189_134 : decode method_52_code 134 = .ok (.ifCond .eq 10, 3) := by decide +kernel
theorem d189_137 : decode method_52_code 137 = .ok (.iload 9, 2) := by decide +kernel
theorem d189_139 : decode method_52_code 139 = .ok (.iconst 1, 1) := by decide +kernel
theorem d189_140 : decode method_52_code 140 = .ok (.isub, 1) := by decide +kernel
theorem d189_141 : decode method_52_code 141 = .ok (.goto 4, 3) := by decide +kernel
theorem d189_144 : decode method_52_code 144 = .ok (.iconst (-1), 1) := by decide +kernel
theorem d189_145 : decode method_52_code 145 = .ok (.if_icmp .ne 16, 3) := by decide +kernel
theorem d189_148 : decode method_52_code 148 = .ok (.aload_n 0, 1) := by decide +kernel
theorem d189_149 : decode method_52_code 149 = .ok (.invokevirtual 182, 3) := by decide +kernel
theorem d189_152 : decode method_52_code 152 = .ok (.iload 7, 2) := by decide +kernel
theorem d189_154 : decode method_52_code 154 = .ok (.if_icmp .ne 7, 3) := by decide +kernel
theorem d189_157 : decode method_52_code 157 = .ok (.iconst 1, 1) := by decide +kernel
theorem d189_158 : decode method_52_code 158 = .ok (.goto 4, 3) := by decide +kernel
theorem d189_161 : decode method_52_code 161 = .ok (.iconst 0, 1) := by decide +kernel
theorem d189_162 : decode method_52_code 162 = .ok (.ireturn, 1) := by decide +kernel
theorem d189_163 : decode method_52_code 163 = .ok (.aload_n 0, 1) := by decide +kernel
theorem d189_164 : decode method_52_code 164 = .ok (.iload_n 3, 1) := by decide +kernel
theorem d189_165 : decode method_52_code 165 = .ok (.invokevirtual 128, 3) := by decide +kernel
theorem k189_128_10 : xCa (xMo 189) 128 10 = some (1, 50, 1) := by decide +kernel
theorem n189_128 : xcn (xMo 189) 128 = some 1 := by decide +kernel
theorem d189_168 : decode method_52_code 168 = .ok (.aload_n 0, 1) := by decide +kernel
theorem d189_169 : decode method_52_code 169 = .ok (.iload_n 3, 1) := by decide +kernel
theorem d189_170 : decode method_52_code 170 = .ok (.invokevirtual 95, 3) := by decide +kernel
theorem k189_95_10 : xCa (xMo 189) 95 10 = some (1, 32, 1) := by decide +kernel
theorem n189_95 : xcn (xMo 189) 95 = some 1 := by decide +kernel
theorem d189_173 : decode method_52_code 173 = .ok (.ifCond .eq 15, 3) := by decide +kernel
theorem d189_176 : decode method_52_code 176 = .ok (.aload_n 0, 1) := by decide +kernel
theorem d189_177 : decode method_52_code 177 = .ok (.iload_n 3, 1) := by decide +kernel
theorem d189_178 : decode method_52_code 178 = .ok (.invokevirtual 116, 3) := by decide +kernel
theorem k189_116_10 : xCa (xMo 189) 116 10 = some (1, 52, 1) := by decide +kernel
theorem n189_116 : xcn (xMo 189) 116 = some 1 := by decide +kernel
theorem d189_181 : decode method_52_code 181 = .ok (.ifCond .ne 7, 3) := by decide +kernel
theorem d189_184 : decode method_52_code 184 = .ok (.iconst 1, 1) := by decide +kernel
theorem d189_185 : decode method_52_code 185 = .ok (.goto 4, 3) := by decide +kernel
theorem d189_188 : decode method_52_code 188 = .ok (.iconst 0, 1) := by decide +kernel
theorem d189_189 : decode method_52_code 189 = .ok (.iadd, 1) := by decide +kernel
theorem d189_190 : decode method_52_code 190 = .ok (.istore 10, 2) := by decide +kernel
theorem d189_192 : decode method_52_code 192 = .ok (.iload 4, 2) := by decide +kernel
theorem d189_194 : decode method_52_code 194 = .ok (.ifCond .eq 71, 3) := by decide +kernel
theorem d189_197 : decode method_52_code 197 = .ok (.iload 6, 2) := by decide +kernel
theorem d189_199 : decode method_52_code 199 = .ok (.iconst (-1), 1) := by decide +kernel
theorem d189_200 : decode method_52_code 200 = .ok (.if_icmp .ne 65, 3) := by decide +kernel
theorem d189_203 : decode method_52_code 203 = .ok (.iload 8, 2) := by decide +kernel
theorem d189_205 : decode method_52_code 205 = .ok (.iload 10, 2) := by decide +kernel
theorem d189_207 : decode method_52_code 207 = .ok (.if_icmp .ne 58, 3) := by decide +kernel
theorem d189_210 : decode method_52_code 210 = .ok (.aload_n 0, 1) := by decide +kernel
theorem d189_211 : decode method_52_code 211 = .ok (.invokevirtual 179, 3) := by decide +kernel
theorem k189_179_10 : xCa (xMo 189) 179 10 = some (1, 9, 0) := by decide +kernel
theorem n189_179 : xcn (xMo 189) 179 = some 0 := by decide +kernel
theorem d189_214 : decode method_52_code 214 = .ok (.iload 10, 2) := by decide +kernel
theorem d189_216 : decode method_52_code 216 = .ok (.if_icmp .ne 49, 3) := by decide +kernel
theorem d189_219 : decode method_52_code 219 = .ok (.aload_n 0, 1) := by decide +kernel
theorem d189_220 : decode method_52_code 220 = .ok (.invokevirtual 182, 3) := by decide +kernel
theorem d189_223 : decode method_52_code 223 = .ok (.iload 7, 2) := by decide +kernel
theorem d189_225 : decode method_52_code 225 = .ok (.iload 10, 2) := by decide +kernel
theorem d189_227 : decode method_52_code 227 = .ok (.iadd, 1) := by decide +kernel
theorem d189_228 : decode method_52_code 228 = .ok (.if_icmp .ne 37, 3) := by decide +kernel
theorem d189_231 : decode method_52_code 231 = .ok (.aload_n 0, 1) := by decide +kernel
theorem d189_232 : decode method_52_code 232 = .ok (.iload_n 3, 1) := by decide +kernel
theorem d189_233 : decode method_52_code 233 = .ok (.invokevirtual 91, 3) := by decide +kernel
theorem k189_91_10 : xCa (xMo 189) 91 10 = some (1, 31, 1) := by decide +kernel
theorem n189_91 : xcn (xMo 189) 91 = some 1 := by decide +kernel
theorem d189_236 : decode method_52_code 236 = .ok (.ifCond .ne 29, 3) := by decide +kernel
theorem d189_239 : decode method_52_code 239 = .ok (.aload_n 0, 1) := by decide +kernel
theorem d189_240 : decode method_52_code 240 = .ok (.iload_n 3, 1) := by decide +kernel
theorem d189_241 : decode method_52_code 241 = .ok (.invokevirtual 119, 3) := by decide +kernel
theorem k189_119_10 : xCa (xMo 189) 119 10 = some (1, 43, 1) := by decide +kernel
theorem n189_119 : xcn (xMo 189) 119 = some 1 := by decide +kernel
theorem d189_244 : decode method_52_code 244 = .ok (.aload_n 0, 1) := by decide +kernel
theorem d189_245 : decode method_52_code 245 = .ok (.iload_n 3, 1) := by decide +kernel
theorem d189_246 : decode method_52_code 246 = .ok (.invokevirtual 95, 3) := by decide +kernel
theorem d189_249 : decode method_52_code 249 = .ok (.ifCond .eq 8, 3) := by decide +kernel
theorem d189_252 : decode method_52_code 252 = .ok (.iload 9, 2) := by decide +kernel
theorem d189_254 : decode method_52_code 254 = .ok (.goto 4, 3) := by decide +kernel
theorem d189_257 : decode method_52_code 257 = .ok (.iconst 0, 1) := by decide +kernel
theorem d189_258 : decode method_52_code 258 = .ok (.if_icmp .ne 7, 3) := by decide +kernel
theorem d189_261 : decode method_52_code 261 = .ok (.iconst 1, 1) := by decide +kernel
theorem d189_262 : decode method_52_code 262 = .ok (.goto 4, 3) := by decide +kernel
theorem d189_265 : decode method_52_code 265 = .ok (.iconst 0, 1) := by decide +kernel
theorem d189_266 : decode method_52_code 266 = .ok (.ireturn, 1) := by decide +kernel
set_option maxRecDepth 100000 in
theorem q190 : xMc 190 = method_24_code := rfl
theorem m190 : xMl 190 = 3 ∧ xMret 190 = (some FieldType.int) := by decide +kernel
theorem e190 {X : xX} {d : Nat} {w : xH} {Q : xO → xH → Prop} (x0 : Nat) (x1 : Int32) : Cw X d 190 [.ref x0, .int x1] w Q = Wx X d 190 0 [some (.ref x0), some (.int x1), none] [] w Q := by
  unfold Cw
  rw [m190.1]
  rfl
theorem d190_0 : decode method_24_code 0 = .ok (.aload_n 0, 1) := by decide +kernel
theorem d190_1 : decode method_24_code 1 = .ok (.iload_n 1, 1) := by decide +kernel
theorem d190_2 : decode method_24_code 2 = .ok (.invokevirtual 82, 3) := by decide +kernel
theorem k190_82_10 : xCa (xMo 190) 82 10 = some (1, 61, 1) := by decide +kernel
theorem n190_82 : xcn (xMo 190) 82 = some 1 := by decide +kernel
theorem d190_5 : decode method_24_code 5 = .ok (.ireturn, 1) := by decide +kernel
theorem d190_6 : decode method_24_code 6 = .ok (.astore_n 2, 1) := by decide +kernel
theorem d190_7 : decode method_24_code 7 = .ok (.ldc 17, 2) := by decide +kernel
theorem d190_9 : decode method_24_code 9 = .ok (.ireturn, 1) := by decide +kernel
set_option maxRecDepth 100000 in
theorem q191 : xMc 191 = method_49_code := rfl
theorem m191 : xMl 191 = 14 ∧ xMret 191 = (some FieldType.boolean) ∧ xMh 191 = [] := by decide +kernel
theorem e191 {X : xX} {d : Nat} {w : xH} {Q : xO → xH → Prop} (x0 : Nat) (x1 : Int32) : Cw X d 191 [.ref x0, .int x1] w Q = Wx X d 191 0 [some (.ref x0), some (.int x1), none, none, none, none, none, none, none, none, none, none, none, none] [] w Q := by
  unfold Cw
  rw [m191.1]
  rfl
theorem d191_0 : decode method_49_code 0 = .ok (.aload_n 0, 1) := by decide +kernel
theorem d191_1 : decode method_49_code 1 = .ok (.iload_n 1, 1) := by decide +kernel
theorem d191_2 : decode method_49_code 2 = .ok (.invokevirtual 122, 3) := by decide +kernel
theorem k191_122_10 : xCa (xMo 191) 122 10 = some (1, 47, 1) := by decide +kernel
theorem n191_122 : xcn (xMo 191) 122 = some 1 := by decide +kernel
theorem d191_5 : decode method_49_code 5 = .ok (.istore_n 2, 1) := by decide +kernel
theorem d191_6 : decode method_49_code 6 = .ok (.aload_n 0, 1) := by decide +kernel
theorem d191_7 : decode method_49_code 7 = .ok (.iload_n 1, 1) := by decide +kernel
theorem d191_8 : decode method_49_code 8 = .ok (.invokevirtual 131, 3) := by decide +kernel
theorem k191_131_10 : xCa (xMo 191) 131 10 = some (1, 53, 1) := by decide +kernel
theorem n191_131 : xcn (xMo 191) 131 = some 1 := by decide +kernel
theorem d191_11 : decode method_49_code 11 = .ok (.istore_n 3, 1) := by decide +kernel
theorem d191_12 : decode method_49_code 12 = .ok (.aload_n 0, 1) := by decide +kernel
theorem d191_13 : decode method_49_code 13 = .ok (.iload_n 1, 1) := by decide +kernel
theorem d191_14 : decode method_49_code 14 = .ok (.invokevirtual 113, 3) := by decide +kernel
theorem k191_113_10 : xCa (xMo 191) 113 10 = some (1, 42, 1) := by decide +kernel
theorem n191_113 : xcn (xMo 191) 113 = some 1 := by decide +kernel
theorem d191_17 : decode method_49_code 17 = .ok (.istore 4, 2) := by decide +kernel
theorem d191_19 : decode method_49_code 19 = .ok (.iconst (-1), 1) := by decide +kernel
theorem d191_20 : decode method_49_code 20 = .ok (.istore 5, 2) := by decide +kernel
theorem d191_22 : decode method_49_code 22 = .ok (.iconst 0, 1) := by decide +kernel
theorem d191_23 : decode method_49_code 23 = .ok (.istore 6, 2) := by decide +kernel
theorem d191_25 : decode method_49_code 25 = .ok (.iload_n 2, 1) := by decide +kernel
theorem d191_26 : decode method_49_code 26 = .ok (.bipush 30, 2) := by decide +kernel
theorem d191_28 : decode method_49_code 28 = .ok (.if_icmp .ge 7, 3) := by decide +kernel
theorem d191_31 : decode method_49_code 31 = .ok (.iconst 1, 1) := by decide +kernel
theorem d191_32 : decode method_49_code 32 = .ok (.goto 4, 3) := by decide +kernel
theorem d191_35 : decode method_49_code 35 = .ok (.iconst 0, 1) := by decide +kernel
theorem d191_36 : decode method_49_code 36 = .ok (.istore 7, 2) := by decide +kernel
theorem d191_38 : decode method_49_code 38 = .ok (.aload_n 0, 1) := by decide +kernel
theorem d191_39 : decode method_49_code 39 = .ok (.iload_n 1, 1) := by decide +kernel
theorem d191_40 : decode method_49_code 40 = .ok (.invokevirtual 116, 3) := by decide +kernel
theorem k191_116_10 : xCa (xMo 191) 116 10 = some (1, 52, 1) := by decide +kernel
theorem n191_116 : xcn (xMo 191) 116 = some 1 := by decide +kernel
theorem d191_43 : decode method_49_code 43 = .ok (.istore 8, 2) := by decide +kernel
theorem d191_45 : decode method_49_code 45 = .ok (.aload_n 0, 1) := by decide +kernel
theorem d191_46 : decode method_49_code 46 = .ok (.iload_n 1, 1) := by decide +kernel
theorem d191_47 : decode method_49_code 47 = .ok (.iconst 0, 1) := by decide +kernel
theorem d191_48 : decode method_49_code 48 = .ok (.invokevirtual 60, 3) := by decide +kernel
theorem k191_60_10 : xCa (xMo 191) 60 10 = some (1, 45, 2) := by decide +kernel
theorem n191_60 : xcn (xMo 191) 60 = some 2 := by decide +kernel
theorem d191_51 : decode method_49_code 51 = .ok (.bipush 61, 2) := by decide +kernel
theorem d191_53 : decode method_49_code 53 = .ok (.if_icmp .ne 85, 3) := by decide +kernel
theorem d191_56 : decode method_49_code 56 = .ok (.aload_n 0, 1) := by decide +kernel
theorem d191_57 : decode method_49_code 57 = .ok (.iload_n 1, 1) := by decide +kernel
theorem d191_58 : decode method_49_code 58 = .ok (.aload_n 0, 1) := by decide +kernel
theorem d191_59 : decode method_49_code 59 = .ok (.iload_n 1, 1) := by decide +kernel
theorem d191_60 : decode method_49_code 60 = .ok (.invokevirtual 119, 3) := by decide +kernel
theorem k191_119_10 : xCa (xMo 191) 119 10 = some (1, 43, 1) := by decide +kernel
theorem n191_119 : xcn (xMo 191) 119 = some 1 := by decide +kernel
theorem d191_63 : decode method_49_code 63 = .ok (.invokestatic 194, 3) := by decide +kernel
theorem k191_194_99 : xCa (xMo 191) 194 99 = some (0, 192, 3) := by decide +kernel
theorem d191_66 : decode method_49_code 66 = .ok (.iconst (-1), 1) := by decide +kernel
theorem d191_67 : decode method_49_code 67 = .ok (.if_icmp .ne 71, 3) := by decide +kernel
theorem d191_70 : decode method_49_code 70 = .ok (.aload_n 0, 1) := by decide +kernel
theorem d191_71 : decode method_49_code 71 = .ok (.iload_n 1, 1) := by decide +kernel
theorem d191_72 : decode method_49_code 72 = .ok (.iconst (-1), 1) := by decide +kernel
theorem d191_73 : decode method_49_code 73 = .ok (.invokestatic 194, 3) := by decide +kernel
theorem d191_76 : decode method_49_code 76 = .ok (.ldc 17, 2) := by decide +kernel
theorem d191_78 : decode method_49_code 78 = .ok (.if_icmp .ne 60, 3) := by decide +kernel
theorem d191_81 : decode method_49_code 81 = .ok (.iload_n 2, 1) := by decide +kernel
theorem d191_82 : decode method_49_code 82 = .ok (.ifCond .lt 56, 3) := by decide +kernel
theorem d191_85 : decode method_49_code 85 = .ok (.iload_n 2, 1) := by decide +kernel
theorem d191_86 : decode method_49_code 86 = .ok (.sipush 200, 3) := by decide +kernel
theorem d191_89 : decode method_49_code 89 = .ok (.if_icmp .gt 49, 3) := by decide +kernel
theorem d191_92 : decode method_49_code 92 = .ok (.iload_n 3, 1) := by decide +kernel
theorem d191_93 : decode method_49_code 93 = .ok (.iconst (-1), 1) := by decide +kernel
theorem d191_94 : decode method_49_code 94 = .ok (.if_icmp .ne 7, 3) := by decide +kernel
theorem d191_97 : decode method_49_code 97 = .ok (.iconst 1, 1) := by decide +kernel
theorem d191_98 : decode method_49_code 98 = .ok (.goto 4, 3) := by decide +kernel
theorem d191_101 : decode method_49_code 101 = .ok (.iconst 0, 1) := by decide +kernel
theorem d191_102 : decode method_49_code 102 = .ok (.iload 4, 2) := by decide +kernel
theorem d191_104 : decode method_49_code 104 = .ok (.if_icmp .ne 34, 3) := by decide +kernel
theorem d191_107 : decode method_49_code 107 = .ok (.iload 4, 2) := by decide +kernel
theorem d191_109 : decode method_49_code 109 = .ok (.ifCond .ne 12, 3) := by decide +kernel
theorem d191_112 : decode method_49_code 112 = .ok (.aload_n 0, 1) := by decide +kernel
theorem d191_113 : decode method_49_code 113 = .ok (.iload_n 3, 1) := by decide +kernel
theorem d191_114 : decode method_49_code 114 = .ok (.invokevirtual 70, 3) := by decide +kernel
theorem k191_70_10 : xCa (xMo 191) 70 10 = some (1, 54, 1) := by decide +kernel
theorem n191_70 : xcn (xMo 191) 70 = some 1 := by decide +kernel
theorem d191_117 : decode method_49_code 117 = .ok (.iload_n 1, 1) := by decide +kernel
theorem d191_118 : decode method_49_code 118 = .ok (.if_icmp .ne 20, 3) := by decide +kernel
theorem d191_121 : decode method_49_code 121 = .ok (.aload_n 0, 1) := by decide +kernel
theorem d191_122 : decode method_49_code 122 = .ok (.iload_n 1, 1) := by decide +kernel
theorem d191_123 : decode method_49_code 123 = .ok (.invokestatic 188, 3) := by decide +kernel
theorem k191_188_99 : xCa (xMo 191) 188 99 = some (0, 213, 2) := by decide +kernel
theorem d191_126 : decode method_49_code 126 = .ok (.aload_n 0, 1) := by decide +kernel
theorem d191_127 : decode method_49_code 127 = .ok (.iload_n 1, 1) := by decide +kernel
theorem d191_128 : decode method_49_code 128 = .ok (.invokestatic 197, 3) := by decide +kernel
theorem k191_197_99 : xCa (xMo 191) 197 99 = some (0, 214, 2) := by decide +kernel
theorem d191_131 : decode method_49_code 131 = .ok (.if_icmp .ne 7, 3) := by decide +kernel
theorem d191_134 : decode method_49_code 134 = .ok (.iconst 1, 1) := by decide +kernel
theorem d191_135 : decode method_49_code 135 = .ok (.goto 4, 3) := by decide +kernel
theorem d191_138 : decode method_49_code 138 = .ok (.iconst 0, 1) := by decide +kernel
theorem d191_139 : decode method_49_code 139 = .ok (.istore 9, 2) := by decide +kernel
theorem d191_141 : decode method_49_code 141 = .ok (.iconst 0, 1) := by decide +kernel
theorem d191_142 : decode method_49_code 142 = .ok (.istore 10, 2) := by decide +kernel
theorem d191_144 : decode method_49_code 144 = .ok (.iload 10, 2) := by decide +kernel
theorem d191_146 : decode method_49_code 146 = .ok (.iload_n 2, 1) := by decide +kernel
theorem d191_147 : decode method_49_code 147 = .ok (.if_icmp .ge 205, 3) := by decide +kernel
theorem d191_150 : decode method_49_code 150 = .ok (.iload 9, 2) := by decide +kernel
theorem d191_152 : decode method_49_code 152 = .ok (.ifCond .eq 200, 3) := by decide +kernel
theorem d191_155 : decode method_49_code 155 = .ok (.aload_n 0, 1) := by decide +kernel
theorem d191_156 : decode method_49_code 156 = .ok (.iload_n 1, 1) := by decide +kernel
theorem d191_157 : decode method_49_code 157 = .ok (.iload 10, 2) := by decide +kernel
theorem d191_159 : decode method_49_code 159 = .ok (.invokevirtual 63, 3) := by decide +kernel
theorem k191_63_10 : xCa (xMo 191) 63 10 = some (1, 48, 2) := by decide +kernel
theorem n191_63 : xcn (xMo 191) 63 = some 2 := by decide +kernel
theorem d191_162 : decode method_49_code 162 = .ok (.istore 11, 2) := by decide +kernel
theorem d191_164 : decode method_49_code 164 = .ok (.iload 11, 2) := by decide +kernel
theorem d191_166 : decode method_49_code 166 = .ok (.ifCond .lt 24, 3) := by decide +kernel
theorem d191_169 : decode method_49_code 169 = .ok (.iload 11, 2) := by decide +kernel
theorem d191_171 : decode method_49_code 171 = .ok (.sipush 200, 3) := by decide +kernel
theorem d191_174 : decode method_49_code 174 = .ok (.if_icmp .ge 16, 3) := by decide +kernel
theorem d191_177 : decode method_49_code 177 = .ok (.aload_n 0, 1) := by decide +kernel
theorem d191_178 : decode method_49_code 178 = .ok (.iload 11, 2) := by decide +kernel
theorem d191_180 : decode method_49_code 180 = .ok (.invokevirtual 95, 3) := by decide +kernel
theorem k191_95_10 : xCa (xMo 191) 95 10 = some (1, 32, 1) := by decide +kernel
theorem n191_95 : xcn (xMo 191) 95 = some 1 := by decide +kernel
theorem d191_183 : decode method_49_code 183 = .ok (.ifCond .eq 7, 3) := by decide +kernel
theorem d191_186 : decode method_49_code 186 = .ok (.iconst 1, 1) := by decide +kernel
theorem d191_187 : decode method_49_code 187 = .ok (.goto 4, 3) := by decide +kernel
theorem d191_190 : decode method_49_code 190 = .ok (.iconst 0, 1) := by decide +kernel
theorem d191_191 : decode method_49_code 191 = .ok (.istore 12, 2) := by decide +kernel
theorem d191_193 : decode method_49_code 193 = .ok (.iload 8, 2) := by decide +kernel
theorem d191_195 : decode method_49_code 195 = .ok (.ifCond .ne 17, 3) := by decide +kernel
theorem d191_198 : decode method_49_code 198 = .ok (.iload 12, 2) := by decide +kernel
theorem d191_200 : decode method_49_code 200 = .ok (.ifCond .eq 16, 3) := by decide +kernel
theorem d191_203 : decode method_49_code 203 = .ok (.aload_n 0, 1) := by decide +kernel
theorem d191_204 : decode method_49_code 204 = .ok (.iload 11, 2) := by decide +kernel
theorem d191_206 : decode method_49_code 206 = .ok (.invokevirtual 113, 3) := by decide +kernel
theorem d191_209 : decode method_49_code 209 = .ok (.ifCond .eq 7, 3) := by decide +kernel
theorem d191_212 : decode method_49_code 212 = .ok (.iconst 1, 1) := by decide +kernel
theorem d191_213 : decode method_49_code 213 = .ok (.goto 4, 3) := by decide +kernel
theorem d191_216 : decode method_49_code 216 = .ok (.iconst 0, 1) := by decide +kernel
theorem d191_217 : decode method_49_code 217 = .ok (.istore 8, 2) := by decide +kernel
theorem d191_219 : decode method_49_code 219 = .ok (.iload 7, 2) := by decide +kernel
theorem d191_221 : decode method_49_code 221 = .ok (.ifCond .eq 26, 3) := by decide +kernel
theorem d191_224 : decode method_49_code 224 = .ok (.iload 12, 2) := by decide +kernel
theorem d191_226 : decode method_49_code 226 = .ok (.ifCond .eq 21, 3) := by decide +kernel
theorem d191_229 : decode method_49_code 229 = .ok (.aload_n 0, 1) := by decide +kernel
theorem d191_230 : decode method_49_code 230 = .ok (.iload 11, 2) := by decide +kernel
theorem d191_232 : decode method_49_code 232 = .ok (.invokevirtual 113, 3) := by decide +kernel
theorem d191_235 : decode method_49_code 235 = .ok (.ifCond .ne 12, 3) := by decide +kernel
theorem d191_238 : decode method_49_code 238 = .ok (.aload_n 0, 1) := by decide +kernel
theorem d191_239 : decode method_49_code 239 = .ok (.iload 11, 2) := by decide +kernel
theorem d191_241 : decode method_49_code 241 = .ok (.invokevirtual 73, 3) := by decide +kernel
theorem k191_73_10 : xCa (xMo 191) 73 10 = some (1, 55, 1) := by decide +kernel
theorem n191_73 : xcn (xMo 191) 73 = some 1 := by decide +kernel
theorem d191_244 : decode method_49_code 244 = .ok (.goto 4, 3) := by decide +kernel
theorem d191_247 : decode method_49_code 247 = .ok (.iconst 0, 1) := by decide +kernel
theorem d191_248 : decode method_49_code 248 = .ok (.istore 13, 2) := by decide +kernel
theorem d191_250 : decode method_49_code 250 = .ok (.iload 13, 2) := by decide +kernel
theorem d191_252 : decode method_49_code 252 = .ok (.iload 6, 2) := by decide +kernel
theorem d191_254 : decode method_49_code 254 = .ok (.if_icmp .le 8, 3) := by decide +kernel
theorem d191_257 : decode method_49_code 257 = .ok (.iload 13, 2) := by decide +kernel
theorem d191_259 : decode method_49_code 259 = .ok (.goto 5, 3) := by decide +kernel
theorem d191_262 : decode method_49_code 262 = .ok (.iload 6, 2) := by decide +kernel
theorem d191_264 : decode method_49_code 264 = .ok (.istore 6, 2) := by decide +kernel
theorem d191_266 : decode method_49_code 266 = .ok (.iload 11, 2) := by decide +kernel
theorem d191_268 : decode method_49_code 268 = .ok (.iload 5, 2) := by decide +kernel
theorem d191_270 : decode method_49_code 270 = .ok (.if_icmp .le 69, 3) := by decide +kernel
theorem d191_273 : decode method_49_code 273 = .ok (.iload 11, 2) := by decide +kernel
theorem d191_275 : decode method_49_code 275 = .ok (.sipush 200, 3) := by decide +kernel
theorem d191_278 : decode method_49_code 278 = .ok (.if_icmp .ge 61, 3) := by decide +kernel
theorem d191_281 : decode method_49_code 281 = .ok (.iload 4, 2) := by decide +kernel
theorem d191_283 : decode method_49_code 283 = .ok (.ifCond .ne 25, 3) := by decide +kernel
theorem d191_286 : decode method_49_code 286 = .ok (.iload 12, 2) := by decide +kernel
theorem d191_288 : decode method_49_code 288 = .ok (.ifCond .eq 20, 3) := by decide +kernel
theorem d191_291 : decode method_49_code 291 = .ok (.iload 10, 2) := by decide +kernel
theorem d191_293 : decode method_49_code 293 = .ok (.iconst 4, 1) := by decide +kernel
theorem d191_294 : decode method_49_code 294 = .ok (.irem, 1) := by decide +kernel
theorem d191_295 : decode method_49_code 295 = .ok (.ifCond .gt 13, 3) := by decide +kernel
theorem d191_298 : decode method_49_code 298 = .ok (.aload_n 0, 1) := by decide +kernel
theorem d191_299 : decode method_49_code 299 = .ok (.iload 11, 2) := by decide +kernel
theorem d191_301 : decode method_49_code 301 = .ok (.invokevirtual 131, 3) := by decide +kernel
theorem d191_304 : decode method_49_code 304 = .ok (.iload_n 3, 1) := by decide +kernel
theorem d191_305 : decode method_49_code 305 = .ok (.if_icmp .ge 34, 3) := by decide +kernel
theorem d191_308 : decode method_49_code 308 = .ok (.iload 10, 2) := by decide +kernel
theorem d191_310 : decode method_49_code 310 = .ok (.bipush 9, 2) := by decide +kernel
theorem d191_312 : decode method_49_code 312 = .ok (.irem, 1) := by decide +kernel
theorem d191_313 : decode method_49_code 313 = .ok (.ifCond .gt 22, 3) := by decide +kernel
theorem d191_316 : decode method_49_code 316 = .ok (.aload_n 0, 1) := by decide +kernel
theorem d191_317 : decode method_49_code 317 = .ok (.iload_n 1, 1) := by decide +kernel
theorem d191_318 : decode method_49_code 318 = .ok (.iload 11, 2) := by decide +kernel
theorem d191_320 : decode method_49_code 320 = .ok (.invokevirtual 66, 3) := by decide +kernel
theorem k191_66_10 : xCa (xMo 191) 66 10 = some (1, 51, 2) := by decide +kernel
theorem n191_66 : xcn (xMo 191) 66 = some 2 := by decide +kernel
theorem d191_323 : decode method_49_code 323 = .ok (.ifCond .eq 16, 3) := by decide +kernel
theorem d191_326 : decode method_49_code 326 = .ok (.aload_n 0, 1) := by decide +kernel
theorem d191_327 : decode method_49_code 327 = .ok (.iload 11, 2) := by decide +kernel
theorem d191_329 : decode method_49_code 329 = .ok (.invokevirtual 125, 3) := by decide +kernel
theorem k191_125_10 : xCa (xMo 191) 125 10 = some (1, 49, 1) := by decide +kernel
theorem n191_125 : xcn (xMo 191) 125 = some 1 := by decide +kernel
theorem d191_332 : decode method_49_code 332 = .ok (.ifCond .le 7, 3) := by decide +kernel
theorem d191_335 : decode method_49_code 335 = .ok (.iconst 1, 1) := by decide +kernel
theorem d191_336 : decode method_49_code 336 = .ok (.goto 4, 3) := by decide +kernel
theorem d191_339 : decode method_49_code 339 = .ok (.iconst 0, 1) := by decide +kernel
theorem d191_340 : decode method_49_code 340 = .ok (.istore 9, 2) := by decide +kernel
theorem d191_342 : decode method_49_code 342 = .ok (.iload 11, 2) := by decide +kernel
theorem d191_344 : decode method_49_code 344 = .ok (.istore 5, 2) := by decide +kernel
theorem d191_346 : decode method_49_code 346 = .ok (.iinc 10 1, 3) := by decide +kernel
theorem d191_349 : decode method_49_code 349 = .ok (.goto (-205), 3) := by decide +kernel
theorem d191_352 : decode method_49_code 352 = .ok (.iload 9, 2) := by decide +kernel
theorem d191_354 : decode method_49_code 354 = .ok (.ifCond .eq 68, 3) := by decide +kernel
theorem d191_357 : decode method_49_code 357 = .ok (.iload 8, 2) := by decide +kernel
theorem d191_359 : decode method_49_code 359 = .ok (.iload 4, 2) := by decide +kernel
theorem d191_361 : decode method_49_code 361 = .ok (.if_icmp .ne 61, 3) := by decide +kernel
theorem d191_364 : decode method_49_code 364 = .ok (.iload 7, 2) := by decide +kernel
theorem d191_366 : decode method_49_code 366 = .ok (.ifCond .eq 25, 3) := by decide +kernel
theorem d191_369 : decode method_49_code 369 = .ok (.aload_n 0, 1) := by decide +kernel
theorem d191_370 : decode method_49_code 370 = .ok (.iload_n 1, 1) := by decide +kernel
theorem d191_371 : decode method_49_code 371 = .ok (.invokestatic 199, 3) := by decide +kernel
theorem k191_199_99 : xCa (xMo 191) 199 99 = some (0, 179, 2) := by decide +kernel
theorem d191_374 : decode method_49_code 374 = .ok (.iload 4, 2) := by decide +kernel
theorem d191_376 : decode method_49_code 376 = .ok (.ifCond .eq 8, 3) := by decide +kernel
theorem d191_379 : decode method_49_code 379 = .ok (.ldc 20, 2) := by decide +kernel
theorem d191_381 : decode method_49_code 381 = .ok (.goto 7, 3) := by decide +kernel
theorem d191_384 : decode method_49_code 384 = .ok (.iload 6, 2) := by decide +kernel
theorem d191_386 : decode method_49_code 386 = .ok (.iconst 1, 1) := by decide +kernel
theorem d191_387 : decode method_49_code 387 = .ok (.iadd, 1) := by decide +kernel
theorem d191_388 : decode method_49_code 388 = .ok (.if_icmp .ne 34, 3) := by decide +kernel
theorem d191_391 : decode method_49_code 391 = .ok (.aload_n 0, 1) := by decide +kernel
theorem d191_392 : decode method_49_code 392 = .ok (.iload_n 1, 1) := by decide +kernel
theorem d191_393 : decode method_49_code 393 = .ok (.invokevirtual 119, 3) := by decide +kernel
theorem d191_396 : decode method_49_code 396 = .ok (.iconst 2, 1) := by decide +kernel
theorem d191_397 : decode method_49_code 397 = .ok (.if_icmp .lt 25, 3) := by decide +kernel
theorem d191_400 : decode method_49_code 400 = .ok (.aload_n 0, 1) := by decide +kernel
theorem d191_401 : decode method_49_code 401 = .ok (.iload_n 1, 1) := by decide +kernel
theorem d191_402 : decode method_49_code 402 = .ok (.invokevirtual 98, 3) := by decide +kernel
theorem k191_98_10 : xCa (xMo 191) 98 10 = some (1, 33, 1) := by decide +kernel
theorem n191_98 : xcn (xMo 191) 98 = some 1 := by decide +kernel
theorem d191_405 : decode method_49_code 405 = .ok (.ifCond .ne 13, 3) := by decide +kernel
theorem d191_408 : decode method_49_code 408 = .ok (.aload_n 0, 1) := by decide +kernel
theorem d191_409 : decode method_49_code 409 = .ok (.iload_n 1, 1) := by decide +kernel
theorem d191_410 : decode method_49_code 410 = .ok (.invokestatic 188, 3) := by decide +kernel
theorem d191_413 : decode method_49_code 413 = .ok (.ldc 20, 2) := by decide +kernel
theorem d191_415 : decode method_49_code 415 = .ok (.if_icmp .ne 7, 3) := by decide +kernel
theorem d191_418 : decode method_49_code 418 = .ok (.iconst 1, 1) := by decide +kernel
theorem d191_419 : decode method_49_code 419 = .ok (.goto 4, 3) := by decide +kernel
theorem d191_422 : decode method_49_code 422 = .ok (.iconst 0, 1) := by decide +kernel
theorem d191_423 : decode method_49_code 423 = .ok (.ireturn, 1) := by decide +kernel
set_option maxRecDepth 100000 in
theorem q192 : xMc 192 = method_17_code := rfl
theorem m192 : xMl 192 = 4 ∧ xMret 192 = (some FieldType.int) := by decide +kernel
theorem e192 {X : xX} {d : Nat} {w : xH} {Q : xO → xH → Prop} (x0 : Nat) (x1 : Int32) (x2 : Int32) : Cw X d 192 [.ref x0, .int x1, .int x2] w Q = Wx X d 192 0 [some (.ref x0), some (.int x1), some (.int x2), none] [] w Q := by
  unfold Cw
  rw [m192.1]
  rfl
theorem d192_0 : decode method_17_code 0 = .ok (.aload_n 0, 1) := by decide +kernel
theorem d192_1 : decode method_17_code 1 = .ok (.iload_n 1, 1) := by decide +kernel
theorem d192_2 : decode method_17_code 2 = .ok (.iload_n 2, 1) := by decide +kernel
theorem d192_3 : decode method_17_code 3 = .ok (.invokevirtual 60, 3) := by decide +kernel
theorem k192_60_10 : xCa (xMo 192) 60 10 = some (1, 45, 2) := by decide +kernel
theorem n192_60 : xcn (xMo 192) 60 = some 2 := by decide +kernel
theorem d192_6 : decode method_17_code 6 = .ok (.ireturn, 1) := by decide +kernel
theorem d192_7 : decode method_17_code 7 = .ok (.astore_n 3, 1) := by decide +kernel
theorem d192_8 : decode method_17_code 8 = .ok (.ldc 17, 2) := by decide +kernel
theorem d192_10 : decode method_17_code 10 = .ok (.ireturn, 1) := by decide +kernel
set_option maxRecDepth 100000 in
theorem q193 : xMc 193 = method_15_code := rfl
theorem m193 : xMl 193 = 2 ∧ xMret 193 = (some FieldType.int) := by decide +kernel
theorem e193 {X : xX} {d : Nat} {w : xH} {Q : xO → xH → Prop} (x0 : Nat) : Cw X d 193 [.ref x0] w Q = Wx X d 193 0 [some (.ref x0), none] [] w Q := by
  unfold Cw
  rw [m193.1]
  rfl
theorem d193_0 : decode method_15_code 0 = .ok (.aload_n 0, 1) := by decide +kernel
theorem d193_1 : decode method_15_code 1 = .ok (.invokevirtual 54, 3) := by decide +kernel
theorem k193_54_10 : xCa (xMo 193) 54 10 = some (1, 29, 0) := by decide +kernel
theorem n193_54 : xcn (xMo 193) 54 = some 0 := by decide +kernel
theorem d193_4 : decode method_15_code 4 = .ok (.ireturn, 1) := by decide +kernel
theorem d193_5 : decode method_15_code 5 = .ok (.astore_n 1, 1) := by decide +kernel
theorem d193_6 : decode method_15_code 6 = .ok (.ldc 20, 2) := by decide +kernel
theorem d193_8 : decode method_15_code 8 = .ok (.ireturn, 1) := by decide +kernel
set_option maxRecDepth 100000 in
theorem q194 : xMc 194 = method_50_code := rfl
theorem m194 : xMl 194 = 14 ∧ xMret 194 = (some FieldType.boolean) ∧ xMh 194 = [] := by decide +kernel
theorem e194 {X : xX} {d : Nat} {w : xH} {Q : xO → xH → Prop} (x0 : Nat) : Cw X d 194 [.ref x0] w Q = Wx X d 194 0 [some (.ref x0), none, none, none, none, none, none, none, none, none, none, none, none, none] [] w Q := by
  unfold Cw
  rw [m194.1]
  rfl
theorem d194_0 : decode method_50_code 0 = .ok (.iconst 0, 1) := by decide +kernel
theorem d194_1 : decode method_50_code 1 = .ok (.istore_n 1, 1) := by decide +kernel
theorem d194_2 : decode method_50_code 2 = .ok (.iconst 0, 1) := by decide +kernel
theorem d194_3 : decode method_50_code 3 = .ok (.istore_n 2, 1) := by decide +kernel
theorem d194_4 : decode method_50_code 4 = .ok (.iconst 0, 1) := by decide +kernel
theorem d194_5 : decode method_50_code 5 = .ok (.istore_n 3, 1) := by decide +kernel
theorem d194_6 : decode method_50_code 6 = .ok (.iconst 0, 1) := by decide +kernel
theorem d194_7 : decode method_50_code 7 = .ok (.istore 4, 2) := by decide +kernel
theorem d194_9 : decode method_50_code 9 = .ok (.iconst 0, 1) := by decide +kernel
theorem d194_10 : decode method_50_code 10 = .ok (.istore 5, 2) := by decide +kernel
theorem d194_12 : decode method_50_code 12 = .ok (.lconst 0, 1) := by decide +kernel
theorem d194_13 : decode method_50_code 13 = .ok (.lstore 6, 2) := by decide +kernel
theorem d194_15 : decode method_50_code 15 = .ok (.aload_n 0, 1) := by decide +kernel
theorem d194_16 : decode method_50_code 16 = .ok (.sipush 200, 3) := by decide +kernel
theorem d194_19 : decode method_50_code 19 = .ok (.invokestatic 201, 3) := by decide +kernel
theorem k194_201_99 : xCa (xMo 194) 201 99 = some (0, 197, 2) := by decide +kernel
theorem d194_22 : decode method_50_code 22 = .ok (.ldc 17, 2) := by decide +kernel
theorem d194_24 : decode method_50_code 24 = .ok (.if_icmp .ne 114, 3) := by decide +kernel
theorem d194_27 : decode method_50_code 27 = .ok (.aload_n 0, 1) := by decide +kernel
theorem d194_28 : decode method_50_code 28 = .ok (.iconst (-1), 1) := by decide +kernel
theorem d194_29 : decode method_50_code 29 = .ok (.invokestatic 188, 3) := by decide +kernel
theorem k194_188_99 : xCa (xMo 194) 188 99 = some (0, 213, 2) := by decide +kernel
theorem d194_32 : decode method_50_code 32 = .ok (.ldc 17, 2) := by decide +kernel
theorem d194_34 : decode method_50_code 34 = .ok (.if_icmp .ne 104, 3) := by decide +kernel
theorem d194_37 : decode method_50_code 37 = .ok (.aload_n 0, 1) := by decide +kernel
theorem d194_38 : decode method_50_code 38 = .ok (.sipush 200, 3) := by decide +kernel
theorem d194_41 : decode method_50_code 41 = .ok (.invokestatic 203, 3) := by decide +kernel
theorem k194_203_99 : xCa (xMo 194) 203 99 = some (0, 207, 2) := by decide +kernel
theorem d194_44 : decode method_50_code 44 = .ok (.ldc 17, 2) := by decide +kernel
theorem d194_46 : decode method_50_code 46 = .ok (.if_icmp .ne 92, 3) := by decide +kernel
theorem d194_49 : decode method_50_code 49 = .ok (.aload_n 0, 1) := by decide +kernel
theorem d194_50 : decode method_50_code 50 = .ok (.iconst 0, 1) := by decide +kernel
theorem d194_51 : decode method_50_code 51 = .ok (.sipush 200, 3) := by decide +kernel
theorem d194_54 : decode method_50_code 54 = .ok (.invokestatic 205, 3) := by decide +kernel
theorem k194_205_99 : xCa (xMo 194) 205 99 = some (0, 185, 3) := by decide +kernel
theorem d194_57 : decode method_50_code 57 = .ok (.ldc 17, 2) := by decide +kernel
theorem d194_59 : decode method_50_code 59 = .ok (.if_icmp .ne 79, 3) := by decide +kernel
theorem d194_62 : decode method_50_code 62 = .ok (.aload_n 0, 1) := by decide +kernel
theorem d194_63 : decode method_50_code 63 = .ok (.iconst (-1), 1) := by decide +kernel
theorem d194_64 : decode method_50_code 64 = .ok (.invokestatic 207, 3) := by decide +kernel
theorem k194_207_99 : xCa (xMo 194) 207 99 = some (0, 205, 2) := by decide +kernel
theorem d194_67 : decode method_50_code 67 = .ok (.ldc 17, 2) := by decide +kernel
theorem d194_69 : decode method_50_code 69 = .ok (.if_icmp .ne 69, 3) := by decide +kernel
theorem d194_72 : decode method_50_code 72 = .ok (.aload_n 0, 1) := by decide +kernel
theorem d194_73 : decode method_50_code 73 = .ok (.iconst (-1), 1) := by decide +kernel
theorem d194_74 : decode method_50_code 74 = .ok (.invokestatic 209, 3) := by decide +kernel
theorem k194_209_99 : xCa (xMo 194) 209 99 = some (0, 181, 2) := by decide +kernel
theorem d194_77 : decode method_50_code 77 = .ok (.ldc2_w 138, 3) := by decide +kernel
theorem d194_80 : decode method_50_code 80 = .ok (.lcmp, 1) := by decide +kernel
theorem d194_81 : decode method_50_code 81 = .ok (.ifCond .ne 57, 3) := by decide +kernel
theorem d194_84 : decode method_50_code 84 = .ok (.aload_n 0, 1) := by decide +kernel
theorem d194_85 : decode method_50_code 85 = .ok (.bipush 20, 2) := by decide +kernel
theorem d194_87 : decode method_50_code 87 = .ok (.invokestatic 212, 3) := by decide +kernel
theorem k194_212_99 : xCa (xMo 194) 212 99 = some (0, 208, 2) := by decide +kernel
theorem d194_90 : decode method_50_code 90 = .ok (.ldc2_w 138, 3) := by decide +kernel
theorem d194_93 : decode method_50_code 93 = .ok (.lcmp, 1) := by decide +kernel
theorem d194_94 : decode method_50_code 94 = .ok (.ifCond .ne 44, 3) := by decide +kernel
theorem d194_97 : decode method_50_code 97 = .ok (.aload_n 0, 1) := by decide +kernel
theorem d194_98 : decode method_50_code 98 = .ok (.iconst 0, 1) := by decide +kernel
theorem d194_99 : decode method_50_code 99 = .ok (.ldc 214, 2) := by decide +kernel
theorem d194_101 : decode method_50_code 101 = .ok (.iconst 0, 1) := by decide +kernel
theorem d194_102 : decode method_50_code 102 = .ok (.invokestatic 215, 3) := by decide +kernel
theorem k194_215_99 : xCa (xMo 194) 215 99 = some (0, 215, 4) := by decide +kernel
theorem d194_105 : decode method_50_code 105 = .ok (.ldc 17, 2) := by decide +kernel
theorem d194_107 : decode method_50_code 107 = .ok (.if_icmp .ne 31, 3) := by decide +kernel
theorem d194_110 : decode method_50_code 110 = .ok (.aload_n 0, 1) := by decide +kernel
theorem d194_111 : decode method_50_code 111 = .ok (.sipush 200, 3) := by decide +kernel
theorem d194_114 : decode method_50_code 114 = .ok (.iconst 0, 1) := by decide +kernel
theorem d194_115 : decode method_50_code 115 = .ok (.iconst 0, 1) := by decide +kernel
theorem d194_116 : decode method_50_code 116 = .ok (.invokestatic 218, 3) := by decide +kernel
theorem k194_218_99 : xCa (xMo 194) 218 99 = some (0, 204, 4) := by decide +kernel
theorem d194_119 : decode method_50_code 119 = .ok (.ldc 17, 2) := by decide +kernel
theorem d194_121 : decode method_50_code 121 = .ok (.if_icmp .ne 17, 3) := by decide +kernel
theorem d194_124 : decode method_50_code 124 = .ok (.aload_n 0, 1) := by decide +kernel
theorem d194_125 : decode method_50_code 125 = .ok (.iconst (-1), 1) := by decide +kernel
theorem d194_126 : decode method_50_code 126 = .ok (.invokestatic 220, 3) := by decide +kernel
theorem k194_220_99 : xCa (xMo 194) 220 99 = some (0, 190, 2) := by decide +kernel
theorem d194_129 : decode method_50_code 129 = .ok (.ldc 17, 2) := by decide +kernel
theorem d194_131 : decode method_50_code 131 = .ok (.if_icmp .ne 7, 3) := by decide +kernel
theorem d194_134 : decode method_50_code 134 = .ok (.iconst 1, 1) := by decide +kernel
theorem d194_135 : decode method_50_code 135 = .ok (.goto 4, 3) := by decide +kernel
theorem d194_138 : decode method_50_code 138 = .ok (.iconst 0, 1) := by decide +kernel
theorem d194_139 : decode method_50_code 139 = .ok (.istore 8, 2) := by decide +kernel
theorem d194_141 : decode method_50_code 141 = .ok (.iconst 0, 1) := by decide +kernel
theorem d194_142 : decode method_50_code 142 = .ok (.istore 9, 2) := by decide +kernel
theorem d194_144 : decode method_50_code 144 = .ok (.iload 9, 2) := by decide +kernel
theorem d194_146 : decode method_50_code 146 = .ok (.sipush 200, 3) := by decide +kernel
theorem d194_149 : decode method_50_code 149 = .ok (.if_icmp .ge 327, 3) := by decide +kernel
theorem d194_152 : decode method_50_code 152 = .ok (.iload 8, 2) := by decide +kernel
theorem d194_154 : decode method_50_code 154 = .ok (.ifCond .eq 322, 3) := by decide +kernel
theorem d194_157 : decode method_50_code 157 = .ok (.aload_n 0, 1) := by decide +kernel
theorem d194_158 : decode method_50_code 158 = .ok (.iload 9, 2) := by decide +kernel
theorem d194_160 : decode method_50_code 160 = .ok (.invokevirtual 95, 3) := by decide +kernel
theorem k194_95_10 : xCa (xMo 194) 95 10 = some (1, 32, 1) := by decide +kernel
theorem n194_95 : xcn (xMo 194) 95 = some 1 := by decide +kernel
theorem d194_163 : decode method_50_code 163 = .ok (.istore 10, 2) := by decide +kernel
theorem d194_165 : decode method_50_code 165 = .ok (.aload_n 0, 1) := by decide +kernel
theorem d194_166 : decode method_50_code 166 = .ok (.iload 9, 2) := by decide +kernel
theorem d194_168 : decode method_50_code 168 = .ok (.invokevirtual 91, 3) := by decide +kernel
theorem k194_91_10 : xCa (xMo 194) 91 10 = some (1, 31, 1) := by decide +kernel
theorem n194_91 : xcn (xMo 194) 91 = some 1 := by decide +kernel
theorem d194_171 : decode method_50_code 171 = .ok (.istore 11, 2) := by decide +kernel
theorem d194_173 : decode method_50_code 173 = .ok (.aload_n 0, 1) := by decide +kernel
theorem d194_174 : decode method_50_code 174 = .ok (.iload 9, 2) := by decide +kernel
theorem d194_176 : decode method_50_code 176 = .ok (.invokevirtual 98, 3) := by decide +kernel
theorem k194_98_10 : xCa (xMo 194) 98 10 = some (1, 33, 1) := by decide +kernel
theorem n194_98 : xcn (xMo 194) 98 = some 1 := by decide +kernel
theorem d194_179 : decode method_50_code 179 = .ok (.istore 12, 2) := by decide +kernel
theorem d194_181 : decode method_50_code 181 = .ok (.aload_n 0, 1) := by decide +kernel
theorem d194_182 : decode method_50_code 182 = .ok (.iload 9, 2) := by decide +kernel
theorem d194_184 : decode method_50_code 184 = .ok (.invokevirtual 101, 3) := by decide +kernel
theorem k194_101_10 : xCa (xMo 194) 101 10 = some (1, 38, 1) := by decide +kernel
theorem n194_101 : xcn (xMo 194) 101 = some 1 := by decide +kernel
theorem d194_187 : decode method_50_code 187 = .ok (.ifCond .eq 7, 3) := by decide +kernel
theorem d194_190 : decode method_50_code 190 = .ok (.iconst 1, 1) := by decide +kernel
theorem d194_191 : decode method_50_code 191 = .ok (.goto 4, 3) := by decide +kernel
theorem d194_194 : decode method_50_code 194 = .ok (.iconst 0, 1) := by decide +kernel
theorem d194_195 : decode method_50_code 195 = .ok (.aload_n 0, 1) := by decide +kernel
theorem d194_196 : decode method_50_code 196 = .ok (.iload 9, 2) := by decide +kernel
theorem d194_198 : decode method_50_code 198 = .ok (.invokevirtual 104, 3) := by decide +kernel
theorem k194_104_10 : xCa (xMo 194) 104 10 = some (1, 39, 1) := by decide +kernel
theorem n194_104 : xcn (xMo 194) 104 = some 1 := by decide +kernel
theorem d194_201 : decode method_50_code 201 = .ok (.ifCond .eq 7, 3) := by decide +kernel
theorem d194_204 : decode method_50_code 204 = .ok (.iconst 1, 1) := by decide +kernel
theorem d194_205 : decode method_50_code 205 = .ok (.goto 4, 3) := by decide +kernel
theorem d194_208 : decode method_50_code 208 = .ok (.iconst 0, 1) := by decide +kernel
theorem d194_209 : decode method_50_code 209 = .ok (.iadd, 1) := by decide +kernel
theorem d194_210 : decode method_50_code 210 = .ok (.aload_n 0, 1) := by decide +kernel
theorem d194_211 : decode method_50_code 211 = .ok (.iload 9, 2) := by decide +kernel
theorem d194_213 : decode method_50_code 213 = .ok (.invokevirtual 107, 3) := by decide +kernel
theorem k194_107_10 : xCa (xMo 194) 107 10 = some (1, 40, 1) := by decide +kernel
theorem n194_107 : xcn (xMo 194) 107 = some 1 := by decide +kernel
theorem d194_216 : decode method_50_code 216 = .ok (.ifCond .eq 7, 3) := by decide +kernel
theorem d194_219 : decode method_50_code 219 = .ok (.iconst 1, 1) := by decide +kernel
theorem d194_220 : decode method_50_code 220 = .ok (.goto 4, 3) := by decide +kernel
theorem d194_223 : decode method_50_code 223 = .ok (.iconst 0, 1) := by decide +kernel
theorem d194_224 : decode method_50_code 224 = .ok (.iadd, 1) := by decide +kernel
theorem d194_225 : decode method_50_code 225 = .ok (.aload_n 0, 1) := by decide +kernel
theorem d194_226 : decode method_50_code 226 = .ok (.iload 9, 2) := by decide +kernel
theorem d194_228 : decode method_50_code 228 = .ok (.invokevirtual 110, 3) := by decide +kernel
theorem k194_110_10 : xCa (xMo 194) 110 10 = some (1, 41, 1) := by decide +kernel
theorem n194_110 : xcn (xMo 194) 110 = some 1 := by decide +kernel
theorem d194_231 : decode method_50_code 231 = .ok (.ifCond .eq 7, 3) := by decide +kernel
theorem d194_234 : decode method_50_code 234 = .ok (.iconst 1, 1) := by decide +kernel
theorem d194_235 : decode method_50_code 235 = .ok (.goto 4, 3) := by decide +kernel
theorem d194_238 : decode method_50_code 238 = .ok (.iconst 0, 1) := by decide +kernel
theorem d194_239 : decode method_50_code 239 = .ok (.iadd, 1) := by decide +kernel
theorem d194_240 : decode method_50_code 240 = .ok (.aload_n 0, 1) := by decide +kernel
theorem d194_241 : decode method_50_code 241 = .ok (.iload 9, 2) := by decide +kernel
theorem d194_243 : decode method_50_code 243 = .ok (.invokevirtual 113, 3) := by decide +kernel
theorem k194_113_10 : xCa (xMo 194) 113 10 = some (1, 42, 1) := by decide +kernel
theorem n194_113 : xcn (xMo 194) 113 = some 1 := by decide +kernel
theorem d194_246 : decode method_50_code 246 = .ok (.ifCond .eq 7, 3) := by decide +kernel
theorem d194_249 : decode method_50_code 249 = .ok (.iconst 1, 1) := by decide +kernel
theorem d194_250 : decode method_50_code 250 = .ok (.goto 4, 3) := by decide +kernel
theorem d194_253 : decode method_50_code 253 = .ok (.iconst 0, 1) := by decide +kernel
theorem d194_254 : decode method_50_code 254 = .ok (.iadd, 1) := by decide +kernel
theorem d194_255 : decode method_50_code 255 = .ok (.istore 13, 2) := by decide +kernel
theorem d194_257 : decode method_50_code 257 = .ok (.iload_n 1, 1) := by decide +kernel
theorem d194_258 : decode method_50_code 258 = .ok (.iload 11, 2) := by decide +kernel
theorem d194_260 : decode method_50_code 260 = .ok (.ifCond .eq 7, 3) := by decide +kernel
theorem d194_263 : decode method_50_code 263 = .ok (.iconst 0, 1) := by decide +kernel
theorem d194_264 : decode method_50_code 264 = .ok (.goto 4, 3) := by decide +kernel
theorem d194_267 : decode method_50_code 267 = .ok (.iconst 1, 1) := by decide +kernel
theorem d194_268 : decode method_50_code 268 = .ok (.iadd, 1) := by decide +kernel
theorem d194_269 : decode method_50_code 269 = .ok (.istore_n 1, 1) := by decide +kernel
theorem d194_270 : decode method_50_code 270 = .ok (.iload_n 2, 1) := by decide +kernel
theorem d194_271 : decode method_50_code 271 = .ok (.iload 10, 2) := by decide +kernel
theorem d194_273 : decode method_50_code 273 = .ok (.ifCond .eq 7, 3) := by decide +kernel
theorem d194_276 : decode method_50_code 276 = .ok (.iconst 1, 1) := by decide +kernel
theorem d194_277 : decode method_50_code 277 = .ok (.goto 4, 3) := by decide +kernel
theorem d194_280 : decode method_50_code 280 = .ok (.iconst 0, 1) := by decide +kernel
theorem d194_281 : decode method_50_code 281 = .ok (.iadd, 1) := by decide +kernel
theorem d194_282 : decode method_50_code 282 = .ok (.istore_n 2, 1) := by decide +kernel
theorem d194_283 : decode method_50_code 283 = .ok (.iload_n 3, 1) := by decide +kernel
theorem d194_284 : decode method_50_code 284 = .ok (.iload 12, 2) := by decide +kernel
theorem d194_286 : decode method_50_code 286 = .ok (.ifCond .eq 7, 3) := by decide +kernel
theorem d194_289 : decode method_50_code 289 = .ok (.iconst 0, 1) := by decide +kernel
theorem d194_290 : decode method_50_code 290 = .ok (.goto 4, 3) := by decide +kernel
theorem d194_293 : decode method_50_code 293 = .ok (.iconst 1, 1) := by decide +kernel
theorem d194_294 : decode method_50_code 294 = .ok (.iadd, 1) := by decide +kernel
theorem d194_295 : decode method_50_code 295 = .ok (.istore_n 3, 1) := by decide +kernel
theorem d194_296 : decode method_50_code 296 = .ok (.iload 4, 2) := by decide +kernel
theorem d194_298 : decode method_50_code 298 = .ok (.iload 10, 2) := by decide +kernel
theorem d194_300 : decode method_50_code 300 = .ok (.ifCond .eq 16, 3) := by decide +kernel
theorem d194_303 : decode method_50_code 303 = .ok (.aload_n 0, 1) := by decide +kernel
theorem d194_304 : decode method_50_code 304 = .ok (.iload 9, 2) := by decide +kernel
theorem d194_306 : decode method_50_code 306 = .ok (.invokevirtual 113, 3) := by decide +kernel
theorem d194_309 : decode method_50_code 309 = .ok (.ifCond .ne 7, 3) := by decide +kernel
theorem d194_312 : decode method_50_code 312 = .ok (.iconst 1, 1) := by decide +kernel
theorem d194_313 : decode method_50_code 313 = .ok (.goto 4, 3) := by decide +kernel
theorem d194_316 : decode method_50_code 316 = .ok (.iconst 0, 1) := by decide +kernel
theorem d194_317 : decode method_50_code 317 = .ok (.iadd, 1) := by decide +kernel
theorem d194_318 : decode method_50_code 318 = .ok (.istore 4, 2) := by decide +kernel
theorem d194_320 : decode method_50_code 320 = .ok (.lload 6, 2) := by decide +kernel
theorem d194_322 : decode method_50_code 322 = .ok (.iload 12, 2) := by decide +kernel
theorem d194_324 : decode method_50_code 324 = .ok (.ifCond .eq 13, 3) := by decide +kernel
theorem d194_327 : decode method_50_code 327 = .ok (.aload_n 0, 1) := by decide +kernel
theorem d194_328 : decode method_50_code 328 = .ok (.iload 9, 2) := by decide +kernel
theorem d194_330 : decode method_50_code 330 = .ok (.invokevirtual 85, 3) := by decide +kernel
theorem k194_85_10 : xCa (xMo 194) 85 10 = some (1, 35, 1) := by decide +kernel
theorem n194_85 : xcn (xMo 194) 85 = some 1 := by decide +kernel
theorem d194_333 : decode method_50_code 333 = .ok (.i2l, 1) := by decide +kernel
theorem d194_334 : decode method_50_code 334 = .ok (.goto 4, 3) := by decide +kernel
theorem d194_337 : decode method_50_code 337 = .ok (.lconst 0, 1) := by decide +kernel
theorem d194_338 : decode method_50_code 338 = .ok (.ladd, 1) := by decide +kernel
theorem d194_339 : decode method_50_code 339 = .ok (.lstore 6, 2) := by decide +kernel
theorem d194_341 : decode method_50_code 341 = .ok (.iload 5, 2) := by decide +kernel
theorem d194_343 : decode method_50_code 343 = .ok (.iload 12, 2) := by decide +kernel
theorem d194_345 : decode method_50_code 345 = .ok (.ifCond .eq 12, 3) := by decide +kernel
theorem d194_348 : decode method_50_code 348 = .ok (.iload 11, 2) := by decide +kernel
theorem d194_350 : decode method_50_code 350 = .ok (.ifCond .ne 7, 3) := by decide +kernel
theorem d194_353 : decode method_50_code 353 = .ok (.iconst 1, 1) := by decide +kernel
theorem d194_354 : decode method_50_code 354 = .ok (.goto 4, 3) := by decide +kernel
theorem d194_357 : decode method_50_code 357 = .ok (.iconst 0, 1) := by decide +kernel
theorem d194_358 : decode method_50_code 358 = .ok (.iadd, 1) := by decide +kernel
theorem d194_359 : decode method_50_code 359 = .ok (.istore 5, 2) := by decide +kernel
theorem d194_361 : decode method_50_code 361 = .ok (.iload 11, 2) := by decide +kernel
theorem d194_363 : decode method_50_code 363 = .ok (.ifCond .eq 8, 3) := by decide +kernel
theorem d194_366 : decode method_50_code 366 = .ok (.iload 10, 2) := by decide +kernel
theorem d194_368 : decode method_50_code 368 = .ok (.ifCond .ne 99, 3) := by decide +kernel
theorem d194_371 : decode method_50_code 371 = .ok (.iload 10, 2) := by decide +kernel
theorem d194_373 : decode method_50_code 373 = .ok (.ifCond .ne 8, 3) := by decide +kernel
theorem d194_376 : decode method_50_code 376 = .ok (.iload 12, 2) := by decide +kernel
theorem d194_378 : decode method_50_code 378 = .ok (.ifCond .eq 89, 3) := by decide +kernel
theorem d194_381 : decode method_50_code 381 = .ok (.iload 13, 2) := by decide +kernel
theorem d194_383 : decode method_50_code 383 = .ok (.iload 12, 2) := by decide +kernel
theorem d194_385 : decode method_50_code 385 = .ok (.ifCond .eq 7, 3) := by decide +kernel
theorem d194_388 : decode method_50_code 388 = .ok (.iconst 0, 1) := by decide +kernel
theorem d194_389 : decode method_50_code 389 = .ok (.goto 4, 3) := by decide +kernel
theorem d194_392 : decode method_50_code 392 = .ok (.iconst 1, 1) := by decide +kernel
theorem d194_393 : decode method_50_code 393 = .ok (.if_icmp .ne 74, 3) := by decide +kernel
theorem d194_396 : decode method_50_code 396 = .ok (.iload 12, 2) := by decide +kernel
theorem d194_398 : decode method_50_code 398 = .ok (.ifCond .eq 25, 3) := by decide +kernel
theorem d194_401 : decode method_50_code 401 = .ok (.aload_n 0, 1) := by decide +kernel
theorem d194_402 : decode method_50_code 402 = .ok (.iload 9, 2) := by decide +kernel
theorem d194_404 : decode method_50_code 404 = .ok (.invokevirtual 85, 3) := by decide +kernel
theorem d194_407 : decode method_50_code 407 = .ok (.ldc 222, 2) := by decide +kernel
theorem d194_409 : decode method_50_code 409 = .ok (.if_icmp .lt 58, 3) := by decide +kernel
theorem d194_412 : decode method_50_code 412 = .ok (.aload_n 0, 1) := by decide +kernel
theorem d194_413 : decode method_50_code 413 = .ok (.iload 9, 2) := by decide +kernel
theorem d194_415 : decode method_50_code 415 = .ok (.invokevirtual 85, 3) := by decide +kernel
theorem d194_418 : decode method_50_code 418 = .ok (.ldc 223, 2) := by decide +kernel
theorem d194_420 : decode method_50_code 420 = .ok (.if_icmp .gt 47, 3) := by decide +kernel
theorem d194_423 : decode method_50_code 423 = .ok (.iload 11, 2) := by decide +kernel
theorem d194_425 : decode method_50_code 425 = .ok (.ifCond .eq 12, 3) := by decide +kernel
theorem d194_428 : decode method_50_code 428 = .ok (.aload_n 0, 1) := by decide +kernel
theorem d194_429 : decode method_50_code 429 = .ok (.iload 9, 2) := by decide +kernel
theorem d194_431 : decode method_50_code 431 = .ok (.invokevirtual 85, 3) := by decide +kernel
theorem d194_434 : decode method_50_code 434 = .ok (.ifCond .ne 33, 3) := by decide +kernel
theorem d194_437 : decode method_50_code 437 = .ok (.iload 10, 2) := by decide +kernel
theorem d194_439 : decode method_50_code 439 = .ok (.ifCond .eq 15, 3) := by decide +kernel
theorem d194_442 : decode method_50_code 442 = .ok (.aload_n 0, 1) := by decide +kernel
theorem d194_443 : decode method_50_code 443 = .ok (.iload 9, 2) := by decide +kernel
theorem d194_445 : decode method_50_code 445 = .ok (.invokestatic 224, 3) := by decide +kernel
theorem k194_224_99 : xCa (xMo 194) 224 99 = some (0, 191, 2) := by decide +kernel
theorem d194_448 : decode method_50_code 448 = .ok (.ifCond .eq 19, 3) := by decide +kernel
theorem d194_451 : decode method_50_code 451 = .ok (.goto 12, 3) := by decide +kernel
theorem d194_454 : decode method_50_code 454 = .ok (.aload_n 0, 1) := by decide +kernel
theorem d194_455 : decode method_50_code 455 = .ok (.iload 9, 2) := by decide +kernel
theorem d194_457 : decode method_50_code 457 = .ok (.invokevirtual 119, 3) := by decide +kernel
theorem k194_119_10 : xCa (xMo 194) 119 10 = some (1, 43, 1) := by decide +kernel
theorem n194_119 : xcn (xMo 194) 119 = some 1 := by decide +kernel
theorem d194_460 : decode method_50_code 460 = .ok (.ifCond .ne 7, 3) := by decide +kernel
theorem d194_463 : decode method_50_code 463 = .ok (.iconst 1, 1) := by decide +kernel
theorem d194_464 : decode method_50_code 464 = .ok (.goto 4, 3) := by decide +kernel
theorem d194_467 : decode method_50_code 467 = .ok (.iconst 0, 1) := by decide +kernel
theorem d194_468 : decode method_50_code 468 = .ok (.istore 8, 2) := by decide +kernel
theorem d194_470 : decode method_50_code 470 = .ok (.iinc 9 1, 3) := by decide +kernel
theorem d194_473 : decode method_50_code 473 = .ok (.goto (-329), 3) := by decide +kernel
theorem d194_476 : decode method_50_code 476 = .ok (.lconst 0, 1) := by decide +kernel
theorem d194_477 : decode method_50_code 477 = .ok (.lstore 9, 2) := by decide +kernel
theorem d194_479 : decode method_50_code 479 = .ok (.iconst 0, 1) := by decide +kernel
theorem d194_480 : decode method_50_code 480 = .ok (.istore 11, 2) := by decide +kernel
theorem d194_482 : decode method_50_code 482 = .ok (.iload 11, 2) := by decide +kernel
theorem d194_484 : decode method_50_code 484 = .ok (.bipush 20, 2) := by decide +kernel
theorem d194_486 : decode method_50_code 486 = .ok (.if_icmp .ge 38, 3) := by decide +kernel
theorem d194_489 : decode method_50_code 489 = .ok (.lload 9, 2) := by decide +kernel
theorem d194_491 : decode method_50_code 491 = .ok (.aload_n 0, 1) := by decide +kernel
theorem d194_492 : decode method_50_code 492 = .ok (.iload 11, 2) := by decide +kernel
theorem d194_494 : decode method_50_code 494 = .ok (.invokevirtual 140, 3) := by decide +kernel
theorem k194_140_10 : xCa (xMo 194) 140 10 = some (1, 57, 1) := by decide +kernel
theorem n194_140 : xcn (xMo 194) 140 = some 1 := by decide +kernel
theorem d194_497 : decode method_50_code 497 = .ok (.iload 11, 2) := by decide +kernel
theorem d194_499 : decode method_50_code 499 = .ok (.bipush 10, 2) := by decide +kernel
theorem d194_501 : decode method_50_code 501 = .ok (.if_icmp .ge 12, 3) := by decide +kernel
theorem d194_504 : decode method_50_code 504 = .ok (.aload_n 0, 1) := by decide +kernel
theorem d194_505 : decode method_50_code 505 = .ok (.iload 11, 2) := by decide +kernel
theorem d194_507 : decode method_50_code 507 = .ok (.invokevirtual 134, 3) := by decide +kernel
theorem k194_134_10 : xCa (xMo 194) 134 10 = some (1, 56, 1) := by decide +kernel
theorem n194_134 : xcn (xMo 194) 134 = some 1 := by decide +kernel
theorem d194_510 : decode method_50_code 510 = .ok (.goto 4, 3) := by decide +kernel
theorem d194_513 : decode method_50_code 513 = .ok (.lconst 0, 1) := by decide +kernel
theorem d194_514 : decode method_50_code 514 = .ok (.ladd, 1) := by decide +kernel
theorem d194_515 : decode method_50_code 515 = .ok (.ladd, 1) := by decide +kernel
theorem d194_516 : decode method_50_code 516 = .ok (.lstore 9, 2) := by decide +kernel
theorem d194_518 : decode method_50_code 518 = .ok (.iinc 11 1, 3) := by decide +kernel
theorem d194_521 : decode method_50_code 521 = .ok (.goto (-39), 3) := by decide +kernel
theorem d194_524 : decode method_50_code 524 = .ok (.iload 8, 2) := by decide +kernel
theorem d194_526 : decode method_50_code 526 = .ok (.ifCond .eq 121, 3) := by decide +kernel
theorem d194_529 : decode method_50_code 529 = .ok (.iload_n 1, 1) := by decide +kernel
theorem d194_530 : decode method_50_code 530 = .ok (.aload_n 0, 1) := by decide +kernel
theorem d194_531 : decode method_50_code 531 = .ok (.invokevirtual 185, 3) := by decide +kernel
theorem k194_185_10 : xCa (xMo 194) 185 10 = some (1, 6, 0) := by decide +kernel
theorem n194_185 : xcn (xMo 194) 185 = some 0 := by decide +kernel
theorem d194_534 : decode method_50_code 534 = .ok (.if_icmp .ne 113, 3) := by decide +kernel
theorem d194_537 : decode method_50_code 537 = .ok (.iload_n 2, 1) := by decide +kernel
theorem d194_538 : decode method_50_code 538 = .ok (.aload_n 0, 1) := by decide +kernel
theorem d194_539 : decode method_50_code 539 = .ok (.invokevirtual 227, 3) := by decide +kernel
theorem k194_227_10 : xCa (xMo 194) 227 10 = some (1, 7, 0) := by decide +kernel
theorem n194_227 : xcn (xMo 194) 227 = some 0 := by decide +kernel
theorem d194_542 : decode method_50_code 542 = .ok (.if_icmp .ne 105, 3) := by decide +kernel
theorem d194_545 : decode method_50_code 545 = .ok (.iload_n 3, 1) := by decide +kernel
theorem d194_546 : decode method_50_code 546 = .ok (.aload_n 0, 1) := by decide +kernel
theorem d194_547 : decode method_50_code 547 = .ok (.invokevirtual 230, 3) := by decide +kernel
theorem k194_230_10 : xCa (xMo 194) 230 10 = some (1, 8, 0) := by decide +kernel
theorem n194_230 : xcn (xMo 194) 230 = some 0 := by decide +kernel
theorem d194_550 : decode method_50_code 550 = .ok (.if_icmp .ne 97, 3) := by decide +kernel
theorem d194_553 : decode method_50_code 553 = .ok (.aload_n 0, 1) := by decide +kernel
theorem d194_554 : decode method_50_code 554 = .ok (.iload 4, 2) := by decide +kernel
theorem d194_556 : decode method_50_code 556 = .ok (.invokevirtual 70, 3) := by decide +kernel
theorem k194_70_10 : xCa (xMo 194) 70 10 = some (1, 54, 1) := by decide +kernel
theorem n194_70 : xcn (xMo 194) 70 = some 1 := by decide +kernel
theorem d194_559 : decode method_50_code 559 = .ok (.iconst (-1), 1) := by decide +kernel
theorem d194_560 : decode method_50_code 560 = .ok (.if_icmp .ne 87, 3) := by decide +kernel
theorem d194_563 : decode method_50_code 563 = .ok (.iload 4, 2) := by decide +kernel
theorem d194_565 : decode method_50_code 565 = .ok (.ifCond .eq 14, 3) := by decide +kernel
theorem d194_568 : decode method_50_code 568 = .ok (.aload_n 0, 1) := by decide +kernel
theorem d194_569 : decode method_50_code 569 = .ok (.iload 4, 2) := by decide +kernel
theorem d194_571 : decode method_50_code 571 = .ok (.iconst 1, 1) := by decide +kernel
theorem d194_572 : decode method_50_code 572 = .ok (.isub, 1) := by decide +kernel
theorem d194_573 : decode method_50_code 573 = .ok (.invokevirtual 70, 3) := by decide +kernel
theorem d194_576 : decode method_50_code 576 = .ok (.ifCond .lt 71, 3) := by decide +kernel
theorem d194_579 : decode method_50_code 579 = .ok (.lload 9, 2) := by decide +kernel
theorem d194_581 : decode method_50_code 581 = .ok (.ldc2_w 233, 3) := by decide +kernel
theorem d194_584 : decode method_50_code 584 = .ok (.lload 6, 2) := by decide +kernel
theorem d194_586 : decode method_50_code 586 = .ok (.lmul, 1) := by decide +kernel
theorem d194_587 : decode method_50_code 587 = .ok (.lcmp, 1) := by decide +kernel
theorem d194_588 : decode method_50_code 588 = .ok (.ifCond .ne 59, 3) := by decide +kernel
theorem d194_591 : decode method_50_code 591 = .ok (.aload_n 0, 1) := by decide +kernel
theorem d194_592 : decode method_50_code 592 = .ok (.invokevirtual 235, 3) := by decide +kernel
theorem k194_235_10 : xCa (xMo 194) 235 10 = some (1, 11, 0) := by decide +kernel
theorem n194_235 : xcn (xMo 194) 235 = some 0 := by decide +kernel
theorem d194_595 : decode method_50_code 595 = .ok (.iload 5, 2) := by decide +kernel
theorem d194_597 : decode method_50_code 597 = .ok (.ifCond .ne 7, 3) := by decide +kernel
theorem d194_600 : decode method_50_code 600 = .ok (.dconst 0, 1) := by decide +kernel
theorem d194_601 : decode method_50_code 601 = .ok (.goto 10, 3) := by decide +kernel
theorem d194_604 : decode method_50_code 604 = .ok (.lload 6, 2) := by decide +kernel
theorem d194_606 : decode method_50_code 606 = .ok (.l2d, 1) := by decide +kernel
theorem d194_607 : decode method_50_code 607 = .ok (.iload 5, 2) := by decide +kernel
theorem d194_609 : decode method_50_code 609 = .ok (.i2d, 1) := by decide +kernel
theorem d194_610 : decode method_50_code 610 = .ok (.ddiv, 1) := by decide +kernel
theorem d194_611 : decode method_50_code 611 = .ok (.dcmp .l, 1) := by decide +kernel
theorem d194_612 : decode method_50_code 612 = .ok (.ifCond .ne 35, 3) := by decide +kernel
theorem d194_615 : decode method_50_code 615 = .ok (.aload_n 0, 1) := by decide +kernel
theorem d194_616 : decode method_50_code 616 = .ok (.invokevirtual 179, 3) := by decide +kernel
theorem k194_179_10 : xCa (xMo 194) 179 10 = some (1, 9, 0) := by decide +kernel
theorem n194_179 : xcn (xMo 194) 179 = some 0 := by decide +kernel
theorem d194_619 : decode method_50_code 619 = .ok (.ifCond .lt 28, 3) := by decide +kernel
theorem d194_622 : decode method_50_code 622 = .ok (.aload_n 0, 1) := by decide +kernel
theorem d194_623 : decode method_50_code 623 = .ok (.invokevirtual 179, 3) := by decide +kernel
theorem d194_626 : decode method_50_code 626 = .ok (.sipush 200, 3) := by decide +kernel
theorem d194_629 : decode method_50_code 629 = .ok (.if_icmp .gt 18, 3) := by decide +kernel
theorem d194_632 : decode method_50_code 632 = .ok (.aload_n 0, 1) := by decide +kernel
theorem d194_633 : decode method_50_code 633 = .ok (.invokevirtual 182, 3) := by decide +kernel
theorem k194_182_10 : xCa (xMo 194) 182 10 = some (1, 10, 0) := by decide +kernel
theorem n194_182 : xcn (xMo 194) 182 = some 0 := by decide +kernel
theorem d194_636 : decode method_50_code 636 = .ok (.aload_n 0, 1) := by decide +kernel
theorem d194_637 : decode method_50_code 637 = .ok (.invokevirtual 179, 3) := by decide +kernel
theorem d194_640 : decode method_50_code 640 = .ok (.if_icmp .lt 7, 3) := by decide +kernel
theorem d194_643 : decode method_50_code 643 = .ok (.iconst 1, 1) := by decide +kernel
theorem d194_644 : decode method_50_code 644 = .ok (.goto 4, 3) := by decide +kernel
theorem d194_647 : decode method_50_code 647 = .ok (.iconst 0, 1) := by decide +kernel
theorem d194_648 : decode method_50_code 648 = .ok (.ireturn, 1) := by decide +kernel
set_option maxRecDepth 100000 in
theorem q195 : xMc 195 = method_12_code := rfl
theorem m195 : xMl 195 = 3 ∧ xMret 195 = (some FieldType.int) := by decide +kernel
theorem e195 {X : xX} {d : Nat} {w : xH} {Q : xO → xH → Prop} (x0 : Nat) (x1 : Int32) : Cw X d 195 [.ref x0, .int x1] w Q = Wx X d 195 0 [some (.ref x0), some (.int x1), none] [] w Q := by
  unfold Cw
  rw [m195.1]
  rfl
theorem d195_0 : decode method_12_code 0 = .ok (.aload_n 0, 1) := by decide +kernel
theorem d195_1 : decode method_12_code 1 = .ok (.iload_n 1, 1) := by decide +kernel
theorem d195_2 : decode method_12_code 2 = .ok (.invokevirtual 44, 3) := by decide +kernel
theorem k195_44_10 : xCa (xMo 195) 44 10 = some (1, 25, 1) := by decide +kernel
theorem n195_44 : xcn (xMo 195) 44 = some 1 := by decide +kernel
theorem d195_5 : decode method_12_code 5 = .ok (.ireturn, 1) := by decide +kernel
theorem d195_6 : decode method_12_code 6 = .ok (.astore_n 2, 1) := by decide +kernel
theorem d195_7 : decode method_12_code 7 = .ok (.ldc 17, 2) := by decide +kernel
theorem d195_9 : decode method_12_code 9 = .ok (.ireturn, 1) := by decide +kernel
theorem d195_10 : decode method_12_code 10 = .ok (.astore_n 2, 1) := by decide +kernel
theorem d195_11 : decode method_12_code 11 = .ok (.ldc 20, 2) := by decide +kernel
theorem d195_13 : decode method_12_code 13 = .ok (.ireturn, 1) := by decide +kernel
set_option maxRecDepth 100000 in
theorem q196 : xMc 196 = method_10_code := rfl
theorem m196 : xMl 196 = 3 ∧ xMret 196 = (some FieldType.int) := by decide +kernel
theorem e196 {X : xX} {d : Nat} {w : xH} {Q : xO → xH → Prop} (x0 : Nat) (x1 : Int32) : Cw X d 196 [.ref x0, .int x1] w Q = Wx X d 196 0 [some (.ref x0), some (.int x1), none] [] w Q := by
  unfold Cw
  rw [m196.1]
  rfl
theorem d196_0 : decode method_10_code 0 = .ok (.aload_n 0, 1) := by decide +kernel
theorem d196_1 : decode method_10_code 1 = .ok (.iload_n 1, 1) := by decide +kernel
theorem d196_2 : decode method_10_code 2 = .ok (.invokevirtual 38, 3) := by decide +kernel
theorem k196_38_10 : xCa (xMo 196) 38 10 = some (1, 21, 1) := by decide +kernel
theorem n196_38 : xcn (xMo 196) 38 = some 1 := by decide +kernel
theorem d196_5 : decode method_10_code 5 = .ok (.ireturn, 1) := by decide +kernel
theorem d196_6 : decode method_10_code 6 = .ok (.astore_n 2, 1) := by decide +kernel
theorem d196_7 : decode method_10_code 7 = .ok (.ldc 17, 2) := by decide +kernel
theorem d196_9 : decode method_10_code 9 = .ok (.ireturn, 1) := by decide +kernel
theorem d196_10 : decode method_10_code 10 = .ok (.astore_n 2, 1) := by decide +kernel
theorem d196_11 : decode method_10_code 11 = .ok (.ldc 20, 2) := by decide +kernel
theorem d196_13 : decode method_10_code 13 = .ok (.ireturn, 1) := by decide +kernel
set_option maxRecDepth 100000 in
theorem q197 : xMc 197 = method_27_code := rfl
theorem m197 : xMl 197 = 4 ∧ xMret 197 = (some FieldType.int) := by decide +kernel
theorem e197 {X : xX} {d : Nat} {w : xH} {Q : xO → xH → Prop} (x0 : Nat) (x1 : Int32) : Cw X d 197 [.ref x0, .int x1] w Q = Wx X d 197 0 [some (.ref x0), some (.int x1), none, none] [] w Q := by
  unfold Cw
  rw [m197.1]
  rfl
theorem d197_0 : decode method_27_code 0 = .ok (.iconst 0, 1) := by decide +kernel
theorem d197_1 : decode method_27_code 1 = .ok (.istore_n 2, 1) := by decide +kernel
theorem d197_2 : decode method_27_code 2 = .ok (.aload_n 0, 1) := by decide +kernel
theorem d197_3 : decode method_27_code 3 = .ok (.iload_n 1, 1) := by decide +kernel
theorem d197_4 : decode method_27_code 4 = .ok (.invokevirtual 91, 3) := by decide +kernel
theorem k197_91_10 : xCa (xMo 197) 91 10 = some (1, 31, 1) := by decide +kernel
theorem n197_91 : xcn (xMo 197) 91 = some 1 := by decide +kernel
theorem d197_7 : decode method_27_code 7 = .ok (.istore_n 2, 1) := by decide +kernel
theorem d197_8 : decode method_27_code 8 = .ok (.goto 7, 3) := by decide +kernel
theorem d197_11 : decode method_27_code 11 = .ok (.astore_n 3, 1) := by decide +kernel
theorem d197_12 : decode method_27_code 12 = .ok (.ldc 17, 2) := by decide +kernel
theorem d197_14 : decode method_27_code 14 = .ok (.ireturn, 1) := by decide +kernel
theorem d197_15 : decode method_27_code 15 = .ok (.iload_n 2, 1) := by decide +kernel
theorem d197_16 : decode method_27_code 16 = .ok (.ifCond .eq 7, 3) := by decide +kernel
theorem d197_19 : decode method_27_code 19 = .ok (.iconst 1, 1) := by decide +kernel
theorem d197_20 : decode method_27_code 20 = .ok (.goto 4, 3) := by decide +kernel
theorem d197_23 : decode method_27_code 23 = .ok (.iconst 0, 1) := by decide +kernel
theorem d197_24 : decode method_27_code 24 = .ok (.ireturn, 1) := by decide +kernel
set_option maxRecDepth 100000 in
theorem q198 : xMc 198 = method_53_code := rfl
theorem m198 : xMl 198 = 14 ∧ xMret 198 = (some FieldType.boolean) ∧ xMh 198 = [] := by decide +kernel
theorem e198 {X : xX} {d : Nat} {w : xH} {Q : xO → xH → Prop} (x0 : Nat) (x1 : Int32) (x2 : Int32) : Cw X d 198 [.ref x0, .int x1, .int x2] w Q = Wx X d 198 0 [some (.ref x0), some (.int x1), some (.int x2), none, none, none, none, none, none, none, none, none, none, none] [] w Q := by
  unfold Cw
  rw [m198.1]
  rfl
theorem d198_0 : decode method_53_code 0 = .ok (.iload_n 1, 1) := by decide +kernel
theorem d198_1 : decode method_53_code 1 = .ok (.iconst 2, 1) := by decide +kernel
theorem d198_2 : decode method_53_code 2 = .ok (.if_icmp .ge 7, 3) := by decide +kernel
theorem d198_5 : decode method_53_code 5 = .ok (.iconst 1, 1) := by decide +kernel
theorem d198_6 : decode method_53_code 6 = .ok (.goto 4, 3) := by decide +kernel
theorem d198_9 : decode method_53_code 9 = .ok (.iconst 0, 1) := by decide +kernel
theorem d198_10 : decode method_53_code 10 = .ok (.istore_n 3, 1) := by decide +kernel
theorem d198_11 : decode method_53_code 11 = .ok (.iload_n 2, 1) := by decide +kernel
theorem d198_12 : decode method_53_code 12 = .ok (.iload_n 2, 1) := by decide +kernel
theorem d198_13 : decode method_53_code 13 = .ok (.bipush 9, 2) := by decide +kernel
theorem d198_15 : decode method_53_code 15 = .ok (.ishr, 1) := by decide +kernel
theorem d198_16 : decode method_53_code 16 = .ok (.bipush 9, 2) := by decide +kernel
theorem d198_18 : decode method_53_code 18 = .ok (.invokestatic 150, 3) := by decide +kernel
theorem k198_150_99 : xCa (xMo 198) 150 99 = some (0, 201, 2) := by decide +kernel
theorem d198_21 : decode method_53_code 21 = .ok (.ifCond .ne 8, 3) := by decide +kernel
theorem d198_24 : decode method_53_code 24 = .ok (.bipush 21, 2) := by decide +kernel
theorem d198_26 : decode method_53_code 26 = .ok (.goto 14, 3) := by decide +kernel
theorem d198_29 : decode method_53_code 29 = .ok (.iload_n 3, 1) := by decide +kernel
theorem d198_30 : decode method_53_code 30 = .ok (.ifCond .eq 8, 3) := by decide +kernel
theorem d198_33 : decode method_53_code 33 = .ok (.bipush 20, 2) := by decide +kernel
theorem d198_35 : decode method_53_code 35 = .ok (.goto 5, 3) := by decide +kernel
theorem d198_38 : decode method_53_code 38 = .ok (.bipush 10, 2) := by decide +kernel
theorem d198_40 : decode method_53_code 40 = .ok (.invokestatic 150, 3) := by decide +kernel
theorem d198_43 : decode method_53_code 43 = .ok (.istore 4, 2) := by decide +kernel
theorem d198_45 : decode method_53_code 45 = .ok (.iload_n 3, 1) := by decide +kernel
theorem d198_46 : decode method_53_code 46 = .ok (.ifCond .eq 8, 3) := by decide +kernel
theorem d198_49 : decode method_53_code 49 = .ok (.bipush 20, 2) := by decide +kernel
theorem d198_51 : decode method_53_code 51 = .ok (.goto 5, 3) := by decide +kernel
theorem d198_54 : decode method_53_code 54 = .ok (.bipush 10, 2) := by decide +kernel
theorem d198_56 : decode method_53_code 56 = .ok (.istore 5, 2) := by decide +kernel
theorem d198_58 : decode method_53_code 58 = .ok (.aload_n 0, 1) := by decide +kernel
theorem d198_59 : decode method_53_code 59 = .ok (.invokevirtual 185, 3) := by decide +kernel
theorem k198_185_10 : xCa (xMo 198) 185 10 = some (1, 6, 0) := by decide +kernel
theorem n198_185 : xcn (xMo 198) 185 = some 0 := by decide +kernel
theorem d198_62 : decode method_53_code 62 = .ok (.istore 6, 2) := by decide +kernel
theorem d198_64 : decode method_53_code 64 = .ok (.aload_n 0, 1) := by decide +kernel
theorem d198_65 : decode method_53_code 65 = .ok (.invokevirtual 182, 3) := by decide +kernel
theorem k198_182_10 : xCa (xMo 198) 182 10 = some (1, 10, 0) := by decide +kernel
theorem n198_182 : xcn (xMo 198) 182 = some 0 := by decide +kernel
theorem d198_68 : decode method_53_code 68 = .ok (.istore 7, 2) := by decide +kernel
theorem d198_70 : decode method_53_code 70 = .ok (.iconst 0, 1) := by decide +kernel
theorem d198_71 : decode method_53_code 71 = .ok (.istore 8, 2) := by decide +kernel
theorem d198_73 : decode method_53_code 73 = .ok (.iconst 0, 1) := by decide +kernel
theorem d198_74 : decode method_53_code 74 = .ok (.istore 9, 2) := by decide +kernel
theorem d198_76 : decode method_53_code 76 = .ok (.iconst 0, 1) := by decide +kernel
theorem d198_77 : decode method_53_code 77 = .ok (.istore 10, 2) := by decide +kernel
theorem d198_79 : decode method_53_code 79 = .ok (.iconst 0, 1) := by decide +kernel
theorem d198_80 : decode method_53_code 80 = .ok (.istore 11, 2) := by decide +kernel
theorem d198_82 : decode method_53_code 82 = .ok (.iload 11, 2) := by decide +kernel
theorem d198_84 : decode method_53_code 84 = .ok (.sipush 200, 3) := by decide +kernel
theorem d198_87 : decode method_53_code 87 = .ok (.if_icmp .ge 100, 3) := by decide +kernel
theorem d198_90 : decode method_53_code 90 = .ok (.iload_n 3, 1) := by decide +kernel
theorem d198_91 : decode method_53_code 91 = .ok (.ifCond .eq 11, 3) := by decide +kernel
theorem d198_94 : decode method_53_code 94 = .ok (.iload 11, 2) := by decide +kernel
theorem d198_96 : decode method_53_code 96 = .ok (.bipush 10, 2) := by decide +kernel
theorem d198_98 : decode method_53_code 98 = .ok (.idiv, 1) := by decide +kernel
theorem d198_99 : decode method_53_code 99 = .ok (.goto 8, 3) := by decide +kernel
theorem d198_102 : decode method_53_code 102 = .ok (.iload 11, 2) := by decide +kernel
theorem d198_104 : decode method_53_code 104 = .ok (.bipush 10, 2) := by decide +kernel
theorem d198_106 : decode method_53_code 106 = .ok (.irem, 1) := by decide +kernel
theorem d198_107 : decode method_53_code 107 = .ok (.istore 12, 2) := by decide +kernel
theorem d198_109 : decode method_53_code 109 = .ok (.aload_n 0, 1) := by decide +kernel
theorem d198_110 : decode method_53_code 110 = .ok (.iload 11, 2) := by decide +kernel
theorem d198_112 : decode method_53_code 112 = .ok (.invokevirtual 91, 3) := by decide +kernel
theorem k198_91_10 : xCa (xMo 198) 91 10 = some (1, 31, 1) := by decide +kernel
theorem n198_91 : xcn (xMo 198) 91 = some 1 := by decide +kernel
theorem d198_115 : decode method_53_code 115 = .ok (.ifCond .eq 7, 3) := by decide +kernel
theorem d198_118 : decode method_53_code 118 = .ok (.iconst 0, 1) := by decide +kernel
theorem d198_119 : decode method_53_code 119 = .ok (.goto 4, 3) := by decide +kernel
theorem d198_122 : decode method_53_code 122 = .ok (.iconst 1, 1) := by decide +kernel
theorem d198_123 : decode method_53_code 123 = .ok (.istore 13, 2) := by decide +kernel
theorem d198_125 : decode method_53_code 125 = .ok (.iload 8, 2) := by decide +kernel
theorem d198_127 : decode method_53_code 127 = .ok (.iload 12, 2) := by decide +kernel
theorem d198_129 : decode method_53_code 129 = .ok (.iload 4, 2) := by decide +kernel
theorem d198_131 : decode method_53_code 131 = .ok (.if_icmp .lt 8, 3) := by decide +kernel
theorem d198_134 : decode method_53_code 134 = .ok (.iload 13, 2) := by decide +kernel
theorem d198_136 : decode method_53_code 136 = .ok (.goto 4, 3) := by decide +kernel
theorem d198_139 : decode method_53_code 139 = .ok (.iconst 0, 1) := by decide +kernel
theorem d198_140 : decode method_53_code 140 = .ok (.iadd, 1) := by decide +kernel
theorem d198_141 : decode method_53_code 141 = .ok (.istore 8, 2) := by decide +kernel
theorem d198_143 : decode method_53_code 143 = .ok (.iload 10, 2) := by decide +kernel
theorem d198_145 : decode method_53_code 145 = .ok (.iload 12, 2) := by decide +kernel
theorem d198_147 : decode method_53_code 147 = .ok (.iload 4, 2) := by decide +kernel
theorem d198_149 : decode method_53_code 149 = .ok (.if_icmp .ne 8, 3) := by decide +kernel
theorem d198_152 : decode method_53_code 152 = .ok (.iload 13, 2) := by decide +kernel
theorem d198_154 : decode method_53_code 154 = .ok (.goto 4, 3) := by decide +kernel
theorem d198_157 : decode method_53_code 157 = .ok (.iconst 0, 1) := by decide +kernel
theorem d198_158 : decode method_53_code 158 = .ok (.iadd, 1) := by decide +kernel
theorem d198_159 : decode method_53_code 159 = .ok (.istore 10, 2) := by decide +kernel
theorem d198_161 : decode method_53_code 161 = .ok (.iload 9, 2) := by decide +kernel
theorem d198_163 : decode method_53_code 163 = .ok (.iload 12, 2) := by decide +kernel
theorem d198_165 : decode method_53_code 165 = .ok (.iload 5, 2) := by decide +kernel
theorem d198_167 : decode method_53_code 167 = .ok (.iconst 1, 1) := by decide +kernel
theorem d198_168 : decode method_53_code 168 = .ok (.isub, 1) := by decide +kernel
theorem d198_169 : decode method_53_code 169 = .ok (.if_icmp .ne 8, 3) := by decide +kernel
theorem d198_172 : decode method_53_code 172 = .ok (.iload 13, 2) := by decide +kernel
theorem d198_174 : decode method_53_code 174 = .ok (.goto 4, 3) := by decide +kernel
theorem d198_177 : decode method_53_code 177 = .ok (.iconst 0, 1) := by decide +kernel
theorem d198_178 : decode method_53_code 178 = .ok (.iadd, 1) := by decide +kernel
theorem d198_179 : decode method_53_code 179 = .ok (.istore 9, 2) := by decide +kernel
theorem d198_181 : decode method_53_code 181 = .ok (.iinc 11 1, 3) := by decide +kernel
theorem d198_184 : decode method_53_code 184 = .ok (.goto (-102), 3) := by decide +kernel
theorem d198_187 : decode method_53_code 187 = .ok (.iload_n 1, 1) := by decide +kernel
theorem d198_188 : decode method_53_code 188 = .ok (.iconst 2, 1) := by decide +kernel
theorem d198_189 : decode method_53_code 189 = .ok (.irem, 1) := by decide +kernel
theorem d198_190 : decode method_53_code 190 = .ok (.ifCond .ne 122, 3) := by decide +kernel
theorem d198_193 : decode method_53_code 193 = .ok (.iload_n 3, 1) := by decide +kernel
theorem d198_194 : decode method_53_code 194 = .ok (.ifCond .eq 12, 3) := by decide +kernel
theorem d198_197 : decode method_53_code 197 = .ok (.aload_n 0, 1) := by decide +kernel
theorem d198_198 : decode method_53_code 198 = .ok (.iload 4, 2) := by decide +kernel
theorem d198_200 : decode method_53_code 200 = .ok (.invokestatic 254, 3) := by decide +kernel
theorem k198_254_99 : xCa (xMo 198) 254 99 = some (0, 196, 2) := by decide +kernel
theorem d198_203 : decode method_53_code 203 = .ok (.goto 9, 3) := by decide +kernel
theorem d198_206 : decode method_53_code 206 = .ok (.aload_n 0, 1) := by decide +kernel
theorem d198_207 : decode method_53_code 207 = .ok (.iload 4, 2) := by decide +kernel
theorem d198_209 : decode method_53_code 209 = .ok (.invokestatic 256, 3) := by decide +kernel
theorem k198_256_99 : xCa (xMo 198) 256 99 = some (0, 195, 2) := by decide +kernel
theorem d198_212 : decode method_53_code 212 = .ok (.istore 11, 2) := by decide +kernel
theorem d198_214 : decode method_53_code 214 = .ok (.iload 11, 2) := by decide +kernel
theorem d198_216 : decode method_53_code 216 = .ok (.iload 4, 2) := by decide +kernel
theorem d198_218 : decode method_53_code 218 = .ok (.iload 5, 2) := by decide +kernel
theorem d198_220 : decode method_53_code 220 = .ok (.if_icmp .lt 8, 3) := by decide +kernel
theorem d198_223 : decode method_53_code 223 = .ok (.ldc 17, 2) := by decide +kernel
theorem d198_225 : decode method_53_code 225 = .ok (.goto 15, 3) := by decide +kernel
theorem d198_228 : decode method_53_code 228 = .ok (.iload 9, 2) := by decide +kernel
theorem d198_230 : decode method_53_code 230 = .ok (.ifCond .le 8, 3) := by decide +kernel
theorem d198_233 : decode method_53_code 233 = .ok (.ldc 20, 2) := by decide +kernel
theorem d198_235 : decode method_53_code 235 = .ok (.goto 5, 3) := by decide +kernel
theorem d198_238 : decode method_53_code 238 = .ok (.iload 8, 2) := by decide +kernel
theorem d198_240 : decode method_53_code 240 = .ok (.if_icmp .ne 70, 3) := by decide +kernel
theorem d198_243 : decode method_53_code 243 = .ok (.aload_n 0, 1) := by decide +kernel
theorem d198_244 : decode method_53_code 244 = .ok (.invokevirtual 185, 3) := by decide +kernel
theorem d198_247 : decode method_53_code 247 = .ok (.iload 6, 2) := by decide +kernel
theorem d198_249 : decode method_53_code 249 = .ok (.if_icmp .ne 61, 3) := by decide +kernel
theorem d198_252 : decode method_53_code 252 = .ok (.iload 11, 2) := by decide +kernel
theorem d198_254 : decode method_53_code 254 = .ok (.ifCond .lt 52, 3) := by decide +kernel
theorem d198_257 : decode method_53_code 257 = .ok (.iload_n 3, 1) := by decide +kernel
theorem d198_258 : decode method_53_code 258 = .ok (.ifCond .eq 12, 3) := by decide +kernel
theorem d198_261 : decode method_53_code 261 = .ok (.aload_n 0, 1) := by decide +kernel
theorem d198_262 : decode method_53_code 262 = .ok (.iload 4, 2) := by decide +kernel
theorem d198_264 : decode method_53_code 264 = .ok (.invokevirtual 140, 3) := by decide +kernel
theorem k198_140_10 : xCa (xMo 198) 140 10 = some (1, 57, 1) := by decide +kernel
theorem n198_140 : xcn (xMo 198) 140 = some 1 := by decide +kernel
theorem d198_267 : decode method_53_code 267 = .ok (.goto 9, 3) := by decide +kernel
theorem d198_270 : decode method_53_code 270 = .ok (.aload_n 0, 1) := by decide +kernel
theorem d198_271 : decode method_53_code 271 = .ok (.iload 4, 2) := by decide +kernel
theorem d198_273 : decode method_53_code 273 = .ok (.invokevirtual 134, 3) := by decide +kernel
theorem k198_134_10 : xCa (xMo 198) 134 10 = some (1, 56, 1) := by decide +kernel
theorem n198_134 : xcn (xMo 198) 134 = some 1 := by decide +kernel
theorem d198_276 : decode method_53_code 276 = .ok (.lconst 0, 1) := by decide +kernel
theorem d198_277 : decode method_53_code 277 = .ok (.lcmp, 1) := by decide +kernel
theorem d198_278 : decode method_53_code 278 = .ok (.ifCond .ne 32, 3) := by decide +kernel
theorem d198_281 : decode method_53_code 281 = .ok (.aload_n 0, 1) := by decide +kernel
theorem d198_282 : decode method_53_code 282 = .ok (.invokevirtual 179, 3) := by decide +kernel
theorem k198_179_10 : xCa (xMo 198) 179 10 = some (1, 9, 0) := by decide +kernel
theorem n198_179 : xcn (xMo 198) 179 = some 0 := by decide +kernel
theorem d198_285 : decode method_53_code 285 = .ok (.aload_n 0, 1) := by decide +kernel
theorem d198_286 : decode method_53_code 286 = .ok (.invokevirtual 227, 3) := by decide +kernel
theorem k198_227_10 : xCa (xMo 198) 227 10 = some (1, 7, 0) := by decide +kernel
theorem n198_227 : xcn (xMo 198) 227 = some 0 := by decide +kernel
theorem d198_289 : decode method_53_code 289 = .ok (.if_icmp .ne 21, 3) := by decide +kernel
theorem d198_292 : decode method_53_code 292 = .ok (.aload_n 0, 1) := by decide +kernel
theorem d198_293 : decode method_53_code 293 = .ok (.invokevirtual 182, 3) := by decide +kernel
theorem d198_296 : decode method_53_code 296 = .ok (.iload 7, 2) := by decide +kernel
theorem d198_298 : decode method_53_code 298 = .ok (.aload_n 0, 1) := by decide +kernel
theorem d198_299 : decode method_53_code 299 = .ok (.invokevirtual 227, 3) := by decide +kernel
theorem d198_302 : decode method_53_code 302 = .ok (.iadd, 1) := by decide +kernel
theorem d198_303 : decode method_53_code 303 = .ok (.if_icmp .ne 7, 3) := by decide +kernel
theorem d198_306 : decode method_53_code 306 = .ok (.iconst 1, 1) := by decide +kernel
theorem d198_307 : decode method_53_code 307 = .ok (.goto 4, 3) := by decide +kernel
theorem d198_310 : decode method_53_code 310 = .ok (.iconst 0, 1) := by decide +kernel
theorem d198_311 : decode method_53_code 311 = .ok (.ireturn, 1) := by decide +kernel
theorem d198_312 : decode method_53_code 312 = .ok (.iload_n 3, 1) := by decide +kernel
theorem d198_313 : decode method_53_code 313 = .ok (.ifCond .eq 12, 3) := by decide +kernel
theorem d198_316 : decode method_53_code 316 = .ok (.aload_n 0, 1) := by decide +kernel
theorem d198_317 : decode method_53_code 317 = .ok (.iload 4, 2) := by decide +kernel
theorem d198_319 : decode method_53_code 319 = .ok (.invokestatic 258, 3) := by decide +kernel
theorem k198_258_99 : xCa (xMo 198) 258 99 = some (0, 184, 2) := by decide +kernel
theorem d198_322 : decode method_53_code 322 = .ok (.goto 9, 3) := by decide +kernel
theorem d198_325 : decode method_53_code 325 = .ok (.aload_n 0, 1) := by decide +kernel
theorem d198_326 : decode method_53_code 326 = .ok (.iload 4, 2) := by decide +kernel
theorem d198_328 : decode method_53_code 328 = .ok (.invokestatic 260, 3) := by decide +kernel
theorem k198_260_99 : xCa (xMo 198) 260 99 = some (0, 183, 2) := by decide +kernel
theorem d198_331 : decode method_53_code 331 = .ok (.istore 11, 2) := by decide +kernel
theorem d198_333 : decode method_53_code 333 = .ok (.iload 11, 2) := by decide +kernel
theorem d198_335 : decode method_53_code 335 = .ok (.iload 4, 2) := by decide +kernel
theorem d198_337 : decode method_53_code 337 = .ok (.iload 5, 2) := by decide +kernel
theorem d198_339 : decode method_53_code 339 = .ok (.if_icmp .lt 8, 3) := by decide +kernel
theorem d198_342 : decode method_53_code 342 = .ok (.ldc 17, 2) := by decide +kernel
theorem d198_344 : decode method_53_code 344 = .ok (.goto 5, 3) := by decide +kernel
theorem d198_347 : decode method_53_code 347 = .ok (.iload 10, 2) := by decide +kernel
theorem d198_349 : decode method_53_code 349 = .ok (.if_icmp .ne 58, 3) := by decide +kernel
theorem d198_352 : decode method_53_code 352 = .ok (.aload_n 0, 1) := by decide +kernel
theorem d198_353 : decode method_53_code 353 = .ok (.invokevirtual 185, 3) := by decide +kernel
theorem d198_356 : decode method_53_code 356 = .ok (.iload 6, 2) := by decide +kernel
theorem d198_358 : decode method_53_code 358 = .ok (.iload 11, 2) := by decide +kernel
theorem d198_360 : decode method_53_code 360 = .ok (.ifCond .ge 7, 3) := by decide +kernel
theorem d198_363 : decode method_53_code 363 = .ok (.iconst 0, 1) := by decide +kernel
theorem d198_364 : decode method_53_code 364 = .ok (.goto 5, 3) := by decide +kernel
theorem d198_367 : decode method_53_code 367 = .ok (.iload 10, 2) := by decide +kernel
theorem d198_369 : decode method_53_code 369 = .ok (.isub, 1) := by decide +kernel
theorem d198_370 : decode method_53_code 370 = .ok (.if_icmp .ne 37, 3) := by decide +kernel
theorem d198_373 : decode method_53_code 373 = .ok (.iload 11, 2) := by decide +kernel
theorem d198_375 : decode method_53_code 375 = .ok (.ifCond .lt 28, 3) := by decide +kernel
theorem d198_378 : decode method_53_code 378 = .ok (.aload_n 0, 1) := by decide +kernel
theorem d198_379 : decode method_53_code 379 = .ok (.invokevirtual 179, 3) := by decide +kernel
theorem d198_382 : decode method_53_code 382 = .ok (.aload_n 0, 1) := by decide +kernel
theorem d198_383 : decode method_53_code 383 = .ok (.invokevirtual 227, 3) := by decide +kernel
theorem d198_386 : decode method_53_code 386 = .ok (.if_icmp .ne 21, 3) := by decide +kernel
theorem d198_389 : decode method_53_code 389 = .ok (.aload_n 0, 1) := by decide +kernel
theorem d198_390 : decode method_53_code 390 = .ok (.invokevirtual 182, 3) := by decide +kernel
theorem d198_393 : decode method_53_code 393 = .ok (.iload 7, 2) := by decide +kernel
theorem d198_395 : decode method_53_code 395 = .ok (.aload_n 0, 1) := by decide +kernel
theorem d198_396 : decode method_53_code 396 = .ok (.invokevirtual 227, 3) := by decide +kernel
theorem d198_399 : decode method_53_code 399 = .ok (.iadd, 1) := by decide +kernel
theorem d198_400 : decode method_53_code 400 = .ok (.if_icmp .ne 7, 3) := by decide +kernel
theorem d198_403 : decode method_53_code 403 = .ok (.iconst 1, 1) := by decide +kernel
theorem d198_404 : decode method_53_code 404 = .ok (.goto 4, 3) := by decide +kernel
theorem d198_407 : decode method_53_code 407 = .ok (.iconst 0, 1) := by decide +kernel
theorem d198_408 : decode method_53_code 408 = .ok (.ireturn, 1) := by decide +kernel
set_option maxRecDepth 100000 in
theorem q199 : xMc 199 = method_48_code := rfl
theorem m199 : xMl 199 = 5 ∧ xMret 199 = (some FieldType.long) ∧ xMh 199 = [] := by decide +kernel
theorem e199 {X : xX} {d : Nat} {w : xH} {Q : xO → xH → Prop} (x0 : Nat) : Cw X d 199 [.ref x0] w Q = Wx X d 199 0 [some (.ref x0), none, none, none, none] [] w Q := by
  unfold Cw
  rw [m199.1]
  rfl
theorem d199_0 : decode method_48_code 0 = .ok (.ldc2_w 175, 3) := by decide +kernel
theorem d199_3 : decode method_48_code 3 = .ok (.ldc2_w 175, 3) := by decide +kernel
theorem d199_6 : decode method_48_code 6 = .ok (.ldc2_w 177, 3) := by decide +kernel
theorem d199_9 : decode method_48_code 9 = .ok (.aload_n 0, 1) := by decide +kernel
theorem d199_10 : decode method_48_code 10 = .ok (.invokevirtual 179, 3) := by decide +kernel
theorem k199_179_10 : xCa (xMo 199) 179 10 = some (1, 9, 0) := by decide +kernel
theorem n199_179 : xcn (xMo 199) 179 = some 0 := by decide +kernel
theorem d199_13 : decode method_48_code 13 = .ok (.i2l, 1) := by decide +kernel
theorem d199_14 : decode method_48_code 14 = .ok (.ladd, 1) := by decide +kernel
theorem d199_15 : decode method_48_code 15 = .ok (.lmul, 1) := by decide +kernel
theorem d199_16 : decode method_48_code 16 = .ok (.aload_n 0, 1) := by decide +kernel
theorem d199_17 : decode method_48_code 17 = .ok (.invokevirtual 182, 3) := by decide +kernel
theorem k199_182_10 : xCa (xMo 199) 182 10 = some (1, 10, 0) := by decide +kernel
theorem n199_182 : xcn (xMo 199) 182 = some 0 := by decide +kernel
theorem d199_20 : decode method_48_code 20 = .ok (.i2l, 1) := by decide +kernel
theorem d199_21 : decode method_48_code 21 = .ok (.ladd, 1) := by decide +kernel
theorem d199_22 : decode method_48_code 22 = .ok (.lmul, 1) := by decide +kernel
theorem d199_23 : decode method_48_code 23 = .ok (.aload_n 0, 1) := by decide +kernel
theorem d199_24 : decode method_48_code 24 = .ok (.invokevirtual 185, 3) := by decide +kernel
theorem k199_185_10 : xCa (xMo 199) 185 10 = some (1, 6, 0) := by decide +kernel
theorem n199_185 : xcn (xMo 199) 185 = some 0 := by decide +kernel
theorem d199_27 : decode method_48_code 27 = .ok (.i2l, 1) := by decide +kernel
theorem d199_28 : decode method_48_code 28 = .ok (.ladd, 1) := by decide +kernel
theorem d199_29 : decode method_48_code 29 = .ok (.lstore_n 1, 1) := by decide +kernel
theorem d199_30 : decode method_48_code 30 = .ok (.iconst 0, 1) := by decide +kernel
theorem d199_31 : decode method_48_code 31 = .ok (.istore_n 3, 1) := by decide +kernel
theorem d199_32 : decode method_48_code 32 = .ok (.iload_n 3, 1) := by decide +kernel
theorem d199_33 : decode method_48_code 33 = .ok (.sipush 200, 3) := by decide +kernel
theorem d199_36 : decode method_48_code 36 = .ok (.if_icmp .ge 170, 3) := by decide +kernel
theorem d199_39 : decode method_48_code 39 = .ok (.aload_n 0, 1) := by decide +kernel
theorem d199_40 : decode method_48_code 40 = .ok (.iload_n 3, 1) := by decide +kernel
theorem d199_41 : decode method_48_code 41 = .ok (.invokevirtual 91, 3) := by decide +kernel
theorem k199_91_10 : xCa (xMo 199) 91 10 = some (1, 31, 1) := by decide +kernel
theorem n199_91 : xcn (xMo 199) 91 = some 1 := by decide +kernel
theorem d199_44 : decode method_48_code 44 = .ok (.ifCond .ne 156, 3) := by decide +kernel
theorem d199_47 : decode method_48_code 47 = .ok (.ldc2_w 175, 3) := by decide +kernel
theorem d199_50 : decode method_48_code 50 = .ok (.ldc2_w 175, 3) := by decide +kernel
theorem d199_53 : decode method_48_code 53 = .ok (.ldc2_w 175, 3) := by decide +kernel
theorem d199_56 : decode method_48_code 56 = .ok (.lload_n 1, 1) := by decide +kernel
theorem d199_57 : decode method_48_code 57 = .ok (.lmul, 1) := by decide +kernel
theorem d199_58 : decode method_48_code 58 = .ok (.iload_n 3, 1) := by decide +kernel
theorem d199_59 : decode method_48_code 59 = .ok (.i2l, 1) := by decide +kernel
theorem d199_60 : decode method_48_code 60 = .ok (.ladd, 1) := by decide +kernel
theorem d199_61 : decode method_48_code 61 = .ok (.lmul, 1) := by decide +kernel
theorem d199_62 : decode method_48_code 62 = .ok (.aload_n 0, 1) := by decide +kernel
theorem d199_63 : decode method_48_code 63 = .ok (.iload_n 3, 1) := by decide +kernel
theorem d199_64 : decode method_48_code 64 = .ok (.invokestatic 188, 3) := by decide +kernel
theorem k199_188_99 : xCa (xMo 199) 188 99 = some (0, 213, 2) := by decide +kernel
theorem d199_67 : decode method_48_code 67 = .ok (.i2l, 1) := by decide +kernel
theorem d199_68 : decode method_48_code 68 = .ok (.ladd, 1) := by decide +kernel
theorem d199_69 : decode method_48_code 69 = .ok (.lmul, 1) := by decide +kernel
theorem d199_70 : decode method_48_code 70 = .ok (.aload_n 0, 1) := by decide +kernel
theorem d199_71 : decode method_48_code 71 = .ok (.iload_n 3, 1) := by decide +kernel
theorem d199_72 : decode method_48_code 72 = .ok (.invokevirtual 119, 3) := by decide +kernel
theorem k199_119_10 : xCa (xMo 199) 119 10 = some (1, 43, 1) := by decide +kernel
theorem n199_119 : xcn (xMo 199) 119 = some 1 := by decide +kernel
theorem d199_75 : decode method_48_code 75 = .ok (.i2l, 1) := by decide +kernel
theorem d199_76 : decode method_48_code 76 = .ok (.ladd, 1) := by decide +kernel
theorem d199_77 : decode method_48_code 77 = .ok (.lstore_n 1, 1) := by decide +kernel
theorem d199_78 : decode method_48_code 78 = .ok (.ldc2_w 190, 3) := by decide +kernel
theorem d199_81 : decode method_48_code 81 = .ok (.lload_n 1, 1) := by decide +kernel
theorem d199_82 : decode method_48_code 82 = .ok (.lmul, 1) := by decide +kernel
theorem d199_83 : decode method_48_code 83 = .ok (.aload_n 0, 1) := by decide +kernel
theorem d199_84 : decode method_48_code 84 = .ok (.iload_n 3, 1) := by decide +kernel
theorem d199_85 : decode method_48_code 85 = .ok (.invokevirtual 101, 3) := by decide +kernel
theorem k199_101_10 : xCa (xMo 199) 101 10 = some (1, 38, 1) := by decide +kernel
theorem n199_101 : xcn (xMo 199) 101 = some 1 := by decide +kernel
theorem d199_88 : decode method_48_code 88 = .ok (.ifCond .eq 7, 3) := by decide +kernel
theorem d199_91 : decode method_48_code 91 = .ok (.iconst 1, 1) := by decide +kernel
theorem d199_92 : decode method_48_code 92 = .ok (.goto 4, 3) := by decide +kernel
theorem d199_95 : decode method_48_code 95 = .ok (.iconst 0, 1) := by decide +kernel
theorem d199_96 : decode method_48_code 96 = .ok (.i2l, 1) := by decide +kernel
theorem d199_97 : decode method_48_code 97 = .ok (.ladd, 1) := by decide +kernel
theorem d199_98 : decode method_48_code 98 = .ok (.aload_n 0, 1) := by decide +kernel
theorem d199_99 : decode method_48_code 99 = .ok (.iload_n 3, 1) := by decide +kernel
theorem d199_100 : decode method_48_code 100 = .ok (.invokevirtual 104, 3) := by decide +kernel
theorem k199_104_10 : xCa (xMo 199) 104 10 = some (1, 39, 1) := by decide +kernel
theorem n199_104 : xcn (xMo 199) 104 = some 1 := by decide +kernel
theorem d199_103 : decode method_48_code 103 = .ok (.ifCond .eq 7, 3) := by decide +kernel
theorem d199_106 : decode method_48_code 106 = .ok (.iconst 2, 1) := by decide +kernel
theorem d199_107 : decode method_48_code 107 = .ok (.goto 4, 3) := by decide +kernel
theorem d199_110 : decode method_48_code 110 = .ok (.iconst 0, 1) := by decide +kernel
theorem d199_111 : decode method_48_code 111 = .ok (.i2l, 1) := by decide +kernel
theorem d199_112 : decode method_48_code 112 = .ok (.ladd, 1) := by decide +kernel
theorem d199_113 : decode method_48_code 113 = .ok (.aload_n 0, 1) := by decide +kernel
theorem d199_114 : decode method_48_code 114 = .ok (.iload_n 3, 1) := by decide +kernel
theorem d199_115 : decode method_48_code 115 = .ok (.invokevirtual 107, 3) := by decide +kernel
theorem k199_107_10 : xCa (xMo 199) 107 10 = some (1, 40, 1) := by decide +kernel
theorem n199_107 : xcn (xMo 199) 107 = some 1 := by decide +kernel
theorem d199_118 : decode method_48_code 118 = .ok (.ifCond .eq 7, 3) := by decide +kernel
theorem d199_121 : decode method_48_code 121 = .ok (.iconst 3, 1) := by decide +kernel
theorem d199_122 : decode method_48_code 122 = .ok (.goto 4, 3) := by decide +kernel
theorem d199_125 : decode method_48_code 125 = .ok (.iconst 0, 1) := by decide +kernel
theorem d199_126 : decode method_48_code 126 = .ok (.i2l, 1) := by decide +kernel
theorem d199_127 : decode method_48_code 127 = .ok (.ladd, 1) := by decide +kernel
theorem d199_128 : decode method_48_code 128 = .ok (.aload_n 0, 1) := by decide +kernel
theorem d199_129 : decode method_48_code 129 = .ok (.iload_n 3, 1) := by decide +kernel
theorem d199_130 : decode method_48_code 130 = .ok (.invokevirtual 110, 3) := by decide +kernel
theorem k199_110_10 : xCa (xMo 199) 110 10 = some (1, 41, 1) := by decide +kernel
theorem n199_110 : xcn (xMo 199) 110 = some 1 := by decide +kernel
theorem d199_133 : decode method_48_code 133 = .ok (.ifCond .eq 7, 3) := by decide +kernel
theorem d199_136 : decode method_48_code 136 = .ok (.iconst 4, 1) := by decide +kernel
theorem d199_137 : decode method_48_code 137 = .ok (.goto 4, 3) := by decide +kernel
theorem d199_140 : decode method_48_code 140 = .ok (.iconst 0, 1) := by decide +kernel
theorem d199_141 : decode method_48_code 141 = .ok (.i2l, 1) := by decide +kernel
theorem d199_142 : decode method_48_code 142 = .ok (.ladd, 1) := by decide +kernel
theorem d199_143 : decode method_48_code 143 = .ok (.aload_n 0, 1) := by decide +kernel
theorem d199_144 : decode method_48_code 144 = .ok (.iload_n 3, 1) := by decide +kernel
theorem d199_145 : decode method_48_code 145 = .ok (.invokevirtual 113, 3) := by decide +kernel
theorem k199_113_10 : xCa (xMo 199) 113 10 = some (1, 42, 1) := by decide +kernel
theorem n199_113 : xcn (xMo 199) 113 = some 1 := by decide +kernel
theorem d199_148 : decode method_48_code 148 = .ok (.ifCond .eq 7, 3) := by decide +kernel
theorem d199_151 : decode method_48_code 151 = .ok (.iconst 5, 1) := by decide +kernel
theorem d199_152 : decode method_48_code 152 = .ok (.goto 4, 3) := by decide +kernel
theorem d199_155 : decode method_48_code 155 = .ok (.iconst 0, 1) := by decide +kernel
theorem d199_156 : decode method_48_code 156 = .ok (.i2l, 1) := by decide +kernel
theorem d199_157 : decode method_48_code 157 = .ok (.ladd, 1) := by decide +kernel
theorem d199_158 : decode method_48_code 158 = .ok (.lstore_n 1, 1) := by decide +kernel
theorem d199_159 : decode method_48_code 159 = .ok (.iconst 1, 1) := by decide +kernel
theorem d199_160 : decode method_48_code 160 = .ok (.istore 4, 2) := by decide +kernel
theorem d199_162 : decode method_48_code 162 = .ok (.iload 4, 2) := by decide +kernel
theorem d199_164 : decode method_48_code 164 = .ok (.aload_n 0, 1) := by decide +kernel
theorem d199_165 : decode method_48_code 165 = .ok (.iload_n 3, 1) := by decide +kernel
theorem d199_166 : decode method_48_code 166 = .ok (.invokevirtual 119, 3) := by decide +kernel
theorem d199_169 : decode method_48_code 169 = .ok (.if_icmp .ge 31, 3) := by decide +kernel
theorem d199_172 : decode method_48_code 172 = .ok (.iload 4, 2) := by decide +kernel
theorem d199_174 : decode method_48_code 174 = .ok (.bipush 30, 2) := by decide +kernel
theorem d199_176 : decode method_48_code 176 = .ok (.if_icmp .ge 24, 3) := by decide +kernel
theorem d199_179 : decode method_48_code 179 = .ok (.ldc2_w 192, 3) := by decide +kernel
theorem d199_182 : decode method_48_code 182 = .ok (.lload_n 1, 1) := by decide +kernel
theorem d199_183 : decode method_48_code 183 = .ok (.lmul, 1) := by decide +kernel
theorem d199_184 : decode method_48_code 184 = .ok (.aload_n 0, 1) := by decide +kernel
theorem d199_185 : decode method_48_code 185 = .ok (.iload_n 3, 1) := by decide +kernel
theorem d199_186 : decode method_48_code 186 = .ok (.iload 4, 2) := by decide +kernel
theorem d199_188 : decode method_48_code 188 = .ok (.invokevirtual 60, 3) := by decide +kernel
theorem k199_60_10 : xCa (xMo 199) 60 10 = some (1, 45, 2) := by decide +kernel
theorem n199_60 : xcn (xMo 199) 60 = some 2 := by decide +kernel
theorem d199_191 : decode method_48_code 191 = .ok (.i2l, 1) := by decide +kernel
theorem d199_192 : decode method_48_code 192 = .ok (.ladd, 1) := by decide +kernel
theorem d199_193 : decode method_48_code 193 = .ok (.lstore_n 1, 1) := by decide +kernel
theorem d199_194 : decode method_48_code 194 = .ok (.iinc 4 3, 3) := by decide +kernel
theorem d199_197 : decode method_48_code 197 = .ok (.goto (-35), 3) := by decide +kernel
theorem d199_200 : decode method_48_code 200 = .ok (.iinc 3 1, 3) := by decide +kernel
theorem d199_203 : decode method_48_code 203 = .ok (.goto (-171), 3) := by decide +kernel
theorem d199_206 : decode method_48_code 206 = .ok (.lload_n 1, 1) := by decide +kernel
theorem d199_207 : decode method_48_code 207 = .ok (.lreturn, 1) := by decide +kernel
set_option maxRecDepth 100000 in
theorem q200 : xMc 200 = method_2_code := rfl
theorem m200 : xMl 200 = 2 ∧ xMret 200 = (some FieldType.int) ∧ xMh 200 = [] := by decide +kernel
theorem e200 {X : xX} {d : Nat} {w : xH} {Q : xO → xH → Prop} (x0 : Nat) (x1 : Int32) : Cw X d 200 [.retAddr x0, .int x1] w Q = Wx X d 200 0 [some (.retAddr x0), some (.int x1)] [] w Q := by
  unfold Cw
  rw [m200.1]
  rfl
theorem d200_0 : decode method_2_code 0 = .ok (.iload_n 1, 1) := by decide +kernel
theorem d200_1 : decode method_2_code 1 = .ok (.aload_n 0, 1) := by decide +kernel
theorem d200_2 : decode method_2_code 2 = .ok (.arraylength, 1) := by decide +kernel
theorem d200_3 : decode method_2_code 3 = .ok (.if_icmp .ge 9, 3) := by decide +kernel
theorem d200_6 : decode method_2_code 6 = .ok (.aload_n 0, 1) := by decide +kernel
theorem d200_7 : decode method_2_code 7 = .ok (.iload_n 1, 1) := by decide +kernel
theorem d200_8 : decode method_2_code 8 = .ok (.iaload, 1) := by decide +kernel
theorem d200_9 : decode method_2_code 9 = .ok (.goto 15, 3) := by decide +kernel
theorem d200_12 : decode method_2_code 12 = .ok (.ldc 7, 2) := by decide +kernel
theorem d200_14 : decode method_2_code 14 = .ok (.iload_n 1, 1) := by decide +kernel
theorem d200_15 : decode method_2_code 15 = .ok (.sipush 5639, 3) := by decide +kernel
theorem d200_18 : decode method_2_code 18 = .ok (.iadd, 1) := by decide +kernel
theorem d200_19 : decode method_2_code 19 = .ok (.imul, 1) := by decide +kernel
theorem d200_20 : decode method_2_code 20 = .ok (.sipush 5417, 3) := by decide +kernel
theorem d200_23 : decode method_2_code 23 = .ok (.iadd, 1) := by decide +kernel
theorem d200_24 : decode method_2_code 24 = .ok (.ireturn, 1) := by decide +kernel
set_option maxRecDepth 100000 in
theorem q201 : xMc 201 = method_3_code := rfl
theorem m201 : xMl 201 = 2 ∧ xMret 201 = (some FieldType.int) ∧ xMh 201 = [] := by decide +kernel
theorem e201 {X : xX} {d : Nat} {w : xH} {Q : xO → xH → Prop} (x0 : Int32) (x1 : Int32) : Cw X d 201 [.int x0, .int x1] w Q = Wx X d 201 0 [some (.int x0), some (.int x1)] [] w Q := by
  unfold Cw
  rw [m201.1]
  rfl
theorem d201_0 : decode method_3_code 0 = .ok (.iload_n 0, 1) := by decide +kernel
theorem d201_1 : decode method_3_code 1 = .ok (.ldc 8, 2) := by decide +kernel
theorem d201_3 : decode method_3_code 3 = .ok (.iand, 1) := by decide +kernel
theorem d201_4 : decode method_3_code 4 = .ok (.iload_n 1, 1) := by decide +kernel
theorem d201_5 : decode method_3_code 5 = .ok (.irem, 1) := by decide +kernel
theorem d201_6 : decode method_3_code 6 = .ok (.ireturn, 1) := by decide +kernel
set_option maxRecDepth 100000 in
theorem q202 : xMc 202 = method_9_code := rfl
theorem m202 : xMl 202 = 4 ∧ xMret 202 = (some FieldType.int) := by decide +kernel
theorem e202 {X : xX} {d : Nat} {w : xH} {Q : xO → xH → Prop} (x0 : Nat) (x1 : Int32) (x2 : Int32) : Cw X d 202 [.ref x0, .int x1, .int x2] w Q = Wx X d 202 0 [some (.ref x0), some (.int x1), some (.int x2), none] [] w Q := by
  unfold Cw
  rw [m202.1]
  rfl
theorem d202_0 : decode method_9_code 0 = .ok (.aload_n 0, 1) := by decide +kernel
theorem d202_1 : decode method_9_code 1 = .ok (.iload_n 1, 1) := by decide +kernel
theorem d202_2 : decode method_9_code 2 = .ok (.iload_n 2, 1) := by decide +kernel
theorem d202_3 : decode method_9_code 3 = .ok (.invokevirtual 35, 3) := by decide +kernel
theorem k202_35_10 : xCa (xMo 202) 35 10 = some (1, 20, 2) := by decide +kernel
theorem n202_35 : xcn (xMo 202) 35 = some 2 := by decide +kernel
theorem d202_6 : decode method_9_code 6 = .ok (.ireturn, 1) := by decide +kernel
theorem d202_7 : decode method_9_code 7 = .ok (.astore_n 3, 1) := by decide +kernel
theorem d202_8 : decode method_9_code 8 = .ok (.ldc 17, 2) := by decide +kernel
theorem d202_10 : decode method_9_code 10 = .ok (.ireturn, 1) := by decide +kernel
set_option maxRecDepth 100000 in
theorem q203 : xMc 203 = method_47_code := rfl
theorem m203 : xMl 203 = 1 ∧ xMret 203 = (some FieldType.int) ∧ xMh 203 = [] := by decide +kernel
theorem e203 {X : xX} {d : Nat} {w : xH} {Q : xO → xH → Prop} (x0 : Int32) : Cw X d 203 [.int x0] w Q = Wx X d 203 0 [some (.int x0)] [] w Q := by
  unfold Cw
  rw [m203.1]
  rfl
theorem d203_0 : decode method_47_code 0 = .ok (.iload_n 0, 1) := by decide +kernel
theorem d203_1 : decode method_47_code 1 = .ok (.bipush 9, 2) := by decide +kernel
theorem d203_3 : decode method_47_code 3 = .ok (.ishr, 1) := by decide +kernel
theorem d203_4 : decode method_47_code 4 = .ok (.bipush 9, 2) := by decide +kernel
theorem d203_6 : decode method_47_code 6 = .ok (.invokestatic 150, 3) := by decide +kernel
theorem k203_150_99 : xCa (xMo 203) 150 99 = some (0, 201, 2) := by decide +kernel
theorem d203_9 : decode method_47_code 9 = .ok (.ifCond .ne 13, 3) := by decide +kernel
theorem d203_12 : decode method_47_code 12 = .ok (.iload_n 0, 1) := by decide +kernel
theorem d203_13 : decode method_47_code 13 = .ok (.sipush 200, 3) := by decide +kernel
theorem d203_16 : decode method_47_code 16 = .ok (.invokestatic 150, 3) := by decide +kernel
theorem d203_19 : decode method_47_code 19 = .ok (.goto 19, 3) := by decide +kernel
theorem d203_22 : decode method_47_code 22 = .ok (.bipush 10, 2) := by decide +kernel
theorem d203_24 : decode method_47_code 24 = .ok (.iload_n 0, 1) := by decide +kernel
theorem d203_25 : decode method_47_code 25 = .ok (.iconst 5, 1) := by decide +kernel
theorem d203_26 : decode method_47_code 26 = .ok (.invokestatic 150, 3) := by decide +kernel
theorem d203_29 : decode method_47_code 29 = .ok (.imul, 1) := by decide +kernel
theorem d203_30 : decode method_47_code 30 = .ok (.iload_n 0, 1) := by decide +kernel
theorem d203_31 : decode method_47_code 31 = .ok (.iconst 4, 1) := by decide +kernel
theorem d203_32 : decode method_47_code 32 = .ok (.ishr, 1) := by decide +kernel
theorem d203_33 : decode method_47_code 33 = .ok (.iconst 5, 1) := by decide +kernel
theorem d203_34 : decode method_47_code 34 = .ok (.invokestatic 150, 3) := by decide +kernel
theorem d203_37 : decode method_47_code 37 = .ok (.iadd, 1) := by decide +kernel
theorem d203_38 : decode method_47_code 38 = .ok (.ireturn, 1) := by decide +kernel
set_option maxRecDepth 100000 in
theorem q204 : xMc 204 = method_23_code := rfl
theorem m204 : xMl 204 = 5 ∧ xMret 204 = (some FieldType.int) := by decide +kernel
theorem e204 {X : xX} {d : Nat} {w : xH} {Q : xO → xH → Prop} (x0 : Nat) (x1 : Int32) (x2 : Int32) (x3 : Int32) : Cw X d 204 [.ref x0, .int x1, .int x2, .int x3] w Q = Wx X d 204 0 [some (.ref x0), some (.int x1), some (.int x2), some (.int x3), none] [] w Q := by
  unfold Cw
  rw [m204.1]
  rfl
theorem d204_0 : decode method_23_code 0 = .ok (.aload_n 0, 1) := by decide +kernel
theorem d204_1 : decode method_23_code 1 = .ok (.iload_n 1, 1) := by decide +kernel
theorem d204_2 : decode method_23_code 2 = .ok (.iload_n 2, 1) := by decide +kernel
theorem d204_3 : decode method_23_code 3 = .ok (.iload_n 3, 1) := by decide +kernel
theorem d204_4 : decode method_23_code 4 = .ok (.invokevirtual 79, 3) := by decide +kernel
theorem k204_79_10 : xCa (xMo 204) 79 10 = some (1, 60, 3) := by decide +kernel
theorem n204_79 : xcn (xMo 204) 79 = some 3 := by decide +kernel
theorem d204_7 : decode method_23_code 7 = .ok (.ireturn, 1) := by decide +kernel
theorem d204_8 : decode method_23_code 8 = .ok (.astore 4, 2) := by decide +kernel
theorem d204_10 : decode method_23_code 10 = .ok (.ldc 17, 2) := by decide +kernel
theorem d204_12 : decode method_23_code 12 = .ok (.ireturn, 1) := by decide +kernel
set_option maxRecDepth 100000 in
theorem q205 : xMc 205 = method_20_code := rfl
theorem m205 : xMl 205 = 3 ∧ xMret 205 = (some FieldType.int) := by decide +kernel
theorem e205 {X : xX} {d : Nat} {w : xH} {Q : xO → xH → Prop} (x0 : Nat) (x1 : Int32) : Cw X d 205 [.ref x0, .int x1] w Q = Wx X d 205 0 [some (.ref x0), some (.int x1), none] [] w Q := by
  unfold Cw
  rw [m205.1]
  rfl
theorem d205_0 : decode method_20_code 0 = .ok (.aload_n 0, 1) := by decide +kernel
theorem d205_1 : decode method_20_code 1 = .ok (.iload_n 1, 1) := by decide +kernel
theorem d205_2 : decode method_20_code 2 = .ok (.invokevirtual 70, 3) := by decide +kernel
theorem k205_70_10 : xCa (xMo 205) 70 10 = some (1, 54, 1) := by decide +kernel
theorem n205_70 : xcn (xMo 205) 70 = some 1 := by decide +kernel
theorem d205_5 : decode method_20_code 5 = .ok (.ireturn, 1) := by decide +kernel
theorem d205_6 : decode method_20_code 6 = .ok (.astore_n 2, 1) := by decide +kernel
theorem d205_7 : decode method_20_code 7 = .ok (.ldc 17, 2) := by decide +kernel
theorem d205_9 : decode method_20_code 9 = .ok (.ireturn, 1) := by decide +kernel
set_option maxRecDepth 100000 in
theorem q206 : xMc 206 = method_45_code := rfl
theorem m206 : xMl 206 = 5 ∧ xMret 206 = (some FieldType.boolean) ∧ xMh 206 = [] := by decide +kernel
theorem e206 {X : xX} {d : Nat} {w : xH} {Q : xO → xH → Prop} (x0 : Nat) (x1 : Int32) : Cw X d 206 [.ref x0, .int x1] w Q = Wx X d 206 0 [some (.ref x0), some (.int x1), none, none, none] [] w Q := by
  unfold Cw
  rw [m206.1]
  rfl
theorem d206_0 : decode method_45_code 0 = .ok (.iload_n 1, 1) := by decide +kernel
theorem d206_1 : decode method_45_code 1 = .ok (.bipush 9, 2) := by decide +kernel
theorem d206_3 : decode method_45_code 3 = .ok (.ishr, 1) := by decide +kernel
theorem d206_4 : decode method_45_code 4 = .ok (.iconst 3, 1) := by decide +kernel
theorem d206_5 : decode method_45_code 5 = .ok (.invokestatic 150, 3) := by decide +kernel
theorem k206_150_99 : xCa (xMo 206) 150 99 = some (0, 201, 2) := by decide +kernel
theorem d206_8 : decode method_45_code 8 = .ok (.ifCond .ne 14, 3) := by decide +kernel
theorem d206_11 : decode method_45_code 11 = .ok (.iload_n 1, 1) := by decide +kernel
theorem d206_12 : decode method_45_code 12 = .ok (.bipush 11, 2) := by decide +kernel
theorem d206_14 : decode method_45_code 14 = .ok (.ishr, 1) := by decide +kernel
theorem d206_15 : decode method_45_code 15 = .ok (.iconst 4, 1) := by decide +kernel
theorem d206_16 : decode method_45_code 16 = .ok (.invokestatic 150, 3) := by decide +kernel
theorem d206_19 : decode method_45_code 19 = .ok (.goto 4, 3) := by decide +kernel
theorem d206_22 : decode method_45_code 22 = .ok (.iconst 0, 1) := by decide +kernel
theorem d206_23 : decode method_45_code 23 = .ok (.istore_n 2, 1) := by decide +kernel
theorem d206_24 : decode method_45_code 24 = .ok (.iload_n 1, 1) := by decide +kernel
theorem d206_25 : decode method_45_code 25 = .ok (.bipush 12, 2) := by decide +kernel
theorem d206_27 : decode method_45_code 27 = .ok (.ishr, 1) := by decide +kernel
theorem d206_28 : decode method_45_code 28 = .ok (.bipush 9, 2) := by decide +kernel
theorem d206_30 : decode method_45_code 30 = .ok (.invokestatic 150, 3) := by decide +kernel
theorem d206_33 : decode method_45_code 33 = .ok (.ifCond .ne 12, 3) := by decide +kernel
theorem d206_36 : decode method_45_code 36 = .ok (.iload_n 1, 1) := by decide +kernel
theorem d206_37 : decode method_45_code 37 = .ok (.bipush 10, 2) := by decide +kernel
theorem d206_39 : decode method_45_code 39 = .ok (.invokestatic 150, 3) := by decide +kernel
theorem d206_42 : decode method_45_code 42 = .ok (.goto 8, 3) := by decide +kernel
theorem d206_45 : decode method_45_code 45 = .ok (.iload_n 1, 1) := by decide +kernel
theorem d206_46 : decode method_45_code 46 = .ok (.iconst 5, 1) := by decide +kernel
theorem d206_47 : decode method_45_code 47 = .ok (.invokestatic 150, 3) := by decide +kernel
theorem d206_50 : decode method_45_code 50 = .ok (.istore_n 3, 1) := by decide +kernel
theorem d206_51 : decode method_45_code 51 = .ok (.iload_n 1, 1) := by decide +kernel
theorem d206_52 : decode method_45_code 52 = .ok (.bipush 13, 2) := by decide +kernel
theorem d206_54 : decode method_45_code 54 = .ok (.ishr, 1) := by decide +kernel
theorem d206_55 : decode method_45_code 55 = .ok (.bipush 9, 2) := by decide +kernel
theorem d206_57 : decode method_45_code 57 = .ok (.invokestatic 150, 3) := by decide +kernel
theorem d206_60 : decode method_45_code 60 = .ok (.ifCond .ne 16, 3) := by decide +kernel
theorem d206_63 : decode method_45_code 63 = .ok (.iconst 1, 1) := by decide +kernel
theorem d206_64 : decode method_45_code 64 = .ok (.iload_n 1, 1) := by decide +kernel
theorem d206_65 : decode method_45_code 65 = .ok (.iconst 4, 1) := by decide +kernel
theorem d206_66 : decode method_45_code 66 = .ok (.ishr, 1) := by decide +kernel
theorem d206_67 : decode method_45_code 67 = .ok (.bipush 20, 2) := by decide +kernel
theorem d206_69 : decode method_45_code 69 = .ok (.invokestatic 150, 3) := by decide +kernel
theorem d206_72 : decode method_45_code 72 = .ok (.iadd, 1) := by decide +kernel
theorem d206_73 : decode method_45_code 73 = .ok (.goto 12, 3) := by decide +kernel
theorem d206_76 : decode method_45_code 76 = .ok (.iconst 1, 1) := by decide +kernel
theorem d206_77 : decode method_45_code 77 = .ok (.iload_n 1, 1) := by decide +kernel
theorem d206_78 : decode method_45_code 78 = .ok (.iconst 4, 1) := by decide +kernel
theorem d206_79 : decode method_45_code 79 = .ok (.ishr, 1) := by decide +kernel
theorem d206_80 : decode method_45_code 80 = .ok (.iconst 5, 1) := by decide +kernel
theorem d206_81 : decode method_45_code 81 = .ok (.invokestatic 150, 3) := by decide +kernel
theorem d206_84 : decode method_45_code 84 = .ok (.iadd, 1) := by decide +kernel
theorem d206_85 : decode method_45_code 85 = .ok (.istore 4, 2) := by decide +kernel
theorem d206_87 : decode method_45_code 87 = .ok (.iload_n 2, 1) := by decide +kernel
theorem d206_88 : decode method_45_code 88 = .ok (.iconst 1, 1) := by decide +kernel
theorem d206_89 : decode method_45_code 89 = .ok (.iand, 1) := by decide +kernel
theorem d206_90 : decode method_45_code 90 = .ok (.ifCond .eq 12, 3) := by decide +kernel
theorem d206_93 : decode method_45_code 93 = .ok (.aload_n 0, 1) := by decide +kernel
theorem d206_94 : decode method_45_code 94 = .ok (.bipush 36, 2) := by decide +kernel
theorem d206_96 : decode method_45_code 96 = .ok (.invokestatic 145, 3) := by decide +kernel
theorem k206_145_99 : xCa (xMo 206) 145 99 = some (0, 211, 2) := by decide +kernel
theorem d206_99 : decode method_45_code 99 = .ok (.ifCond .le 42, 3) := by decide +kernel
theorem d206_102 : decode method_45_code 102 = .ok (.aload_n 0, 1) := by decide +kernel
theorem d206_103 : decode method_45_code 103 = .ok (.bipush 65, 2) := by decide +kernel
theorem d206_105 : decode method_45_code 105 = .ok (.iload_n 3, 1) := by decide +kernel
theorem d206_106 : decode method_45_code 106 = .ok (.iadd, 1) := by decide +kernel
theorem d206_107 : decode method_45_code 107 = .ok (.invokestatic 145, 3) := by decide +kernel
theorem d206_110 : decode method_45_code 110 = .ok (.ifCond .le 31, 3) := by decide +kernel
theorem d206_113 : decode method_45_code 113 = .ok (.iload_n 2, 1) := by decide +kernel
theorem d206_114 : decode method_45_code 114 = .ok (.iconst 2, 1) := by decide +kernel
theorem d206_115 : decode method_45_code 115 = .ok (.iand, 1) := by decide +kernel
theorem d206_116 : decode method_45_code 116 = .ok (.ifCond .eq 12, 3) := by decide +kernel
theorem d206_119 : decode method_45_code 119 = .ok (.aload_n 0, 1) := by decide +kernel
theorem d206_120 : decode method_45_code 120 = .ok (.bipush 36, 2) := by decide +kernel
theorem d206_122 : decode method_45_code 122 = .ok (.invokestatic 145, 3) := by decide +kernel
theorem d206_125 : decode method_45_code 125 = .ok (.ifCond .le 16, 3) := by decide +kernel
theorem d206_128 : decode method_45_code 128 = .ok (.aload_n 0, 1) := by decide +kernel
theorem d206_129 : decode method_45_code 129 = .ok (.iload 4, 2) := by decide +kernel
theorem d206_131 : decode method_45_code 131 = .ok (.invokestatic 153, 3) := by decide +kernel
theorem k206_153_99 : xCa (xMo 206) 153 99 = some (0, 186, 2) := by decide +kernel
theorem d206_134 : decode method_45_code 134 = .ok (.ifCond .eq 7, 3) := by decide +kernel
theorem d206_137 : decode method_45_code 137 = .ok (.iconst 1, 1) := by decide +kernel
theorem d206_138 : decode method_45_code 138 = .ok (.goto 4, 3) := by decide +kernel
theorem d206_141 : decode method_45_code 141 = .ok (.iconst 0, 1) := by decide +kernel
theorem d206_142 : decode method_45_code 142 = .ok (.ireturn, 1) := by decide +kernel
set_option maxRecDepth 100000 in
theorem q207 : xMc 207 = method_37_code := rfl
theorem m207 : xMl 207 = 3 ∧ xMret 207 = (some FieldType.int) := by decide +kernel
theorem e207 {X : xX} {d : Nat} {w : xH} {Q : xO → xH → Prop} (x0 : Nat) (x1 : Int32) : Cw X d 207 [.ref x0, .int x1] w Q = Wx X d 207 0 [some (.ref x0), some (.int x1), none] [] w Q := by
  unfold Cw
  rw [m207.1]
  rfl
theorem d207_0 : decode method_37_code 0 = .ok (.aload_n 0, 1) := by decide +kernel
theorem d207_1 : decode method_37_code 1 = .ok (.iload_n 1, 1) := by decide +kernel
theorem d207_2 : decode method_37_code 2 = .ok (.invokevirtual 122, 3) := by decide +kernel
theorem k207_122_10 : xCa (xMo 207) 122 10 = some (1, 47, 1) := by decide +kernel
theorem n207_122 : xcn (xMo 207) 122 = some 1 := by decide +kernel
theorem d207_5 : decode method_37_code 5 = .ok (.ireturn, 1) := by decide +kernel
theorem d207_6 : decode method_37_code 6 = .ok (.astore_n 2, 1) := by decide +kernel
theorem d207_7 : decode method_37_code 7 = .ok (.ldc 17, 2) := by decide +kernel
theorem d207_9 : decode method_37_code 9 = .ok (.ireturn, 1) := by decide +kernel
set_option maxRecDepth 100000 in
theorem q208 : xMc 208 = method_42_code := rfl
theorem m208 : xMl 208 = 3 ∧ xMret 208 = (some FieldType.long) := by decide +kernel
theorem e208 {X : xX} {d : Nat} {w : xH} {Q : xO → xH → Prop} (x0 : Nat) (x1 : Int32) : Cw X d 208 [.ref x0, .int x1] w Q = Wx X d 208 0 [some (.ref x0), some (.int x1), none] [] w Q := by
  unfold Cw
  rw [m208.1]
  rfl
theorem d208_0 : decode method_42_code 0 = .ok (.aload_n 0, 1) := by decide +kernel
theorem d208_1 : decode method_42_code 1 = .ok (.iload_n 1, 1) := by decide +kernel
theorem d208_2 : decode method_42_code 2 = .ok (.invokevirtual 140, 3) := by decide +kernel
theorem k208_140_10 : xCa (xMo 208) 140 10 = some (1, 57, 1) := by decide +kernel
theorem n208_140 : xcn (xMo 208) 140 = some 1 := by decide +kernel
theorem d208_5 : decode method_42_code 5 = .ok (.lreturn, 1) := by decide +kernel
theorem d208_6 : decode method_42_code 6 = .ok (.astore_n 2, 1) := by decide +kernel
theorem d208_7 : decode method_42_code 7 = .ok (.ldc2_w 138, 3) := by decide +kernel
theorem d208_10 : decode method_42_code 10 = .ok (.lreturn, 1) := by decide +kernel
set_option maxRecDepth 100000 in
theorem q209 : xMc 209 = method_14_code := rfl
theorem m209 : xMl 209 = 2 ∧ xMret 209 = (some FieldType.int) := by decide +kernel
theorem e209 {X : xX} {d : Nat} {w : xH} {Q : xO → xH → Prop} (x0 : Nat) : Cw X d 209 [.ref x0] w Q = Wx X d 209 0 [some (.ref x0), none] [] w Q := by
  unfold Cw
  rw [m209.1]
  rfl
theorem d209_0 : decode method_14_code 0 = .ok (.aload_n 0, 1) := by decide +kernel
theorem d209_1 : decode method_14_code 1 = .ok (.invokevirtual 50, 3) := by decide +kernel
theorem k209_50_10 : xCa (xMo 209) 50 10 = some (1, 28, 0) := by decide +kernel
theorem n209_50 : xcn (xMo 209) 50 = some 0 := by decide +kernel
theorem d209_4 : decode method_14_code 4 = .ok (.ireturn, 1) := by decide +kernel
theorem d209_5 : decode method_14_code 5 = .ok (.astore_n 1, 1) := by decide +kernel
theorem d209_6 : decode method_14_code 6 = .ok (.ldc 20, 2) := by decide +kernel
theorem d209_8 : decode method_14_code 8 = .ok (.ireturn, 1) := by decide +kernel
set_option maxRecDepth 100000 in
theorem q210 : xMc 210 = method_6_code := rfl
theorem m210 : xMl 210 = 4 ∧ xMret 210 = (some FieldType.int) := by decide +kernel
theorem e210 {X : xX} {d : Nat} {w : xH} {Q : xO → xH → Prop} (x0 : Nat) (x1 : Int32) (x2 : Int32) : Cw X d 210 [.ref x0, .int x1, .int x2] w Q = Wx X d 210 0 [some (.ref x0), some (.int x1), some (.int x2), none] [] w Q := by
  unfold Cw
  rw [m210.1]
  rfl
theorem d210_0 : decode method_6_code 0 = .ok (.aload_n 0, 1) := by decide +kernel
theorem d210_1 : decode method_6_code 1 = .ok (.iload_n 1, 1) := by decide +kernel
theorem d210_2 : decode method_6_code 2 = .ok (.iload_n 2, 1) := by decide +kernel
theorem d210_3 : decode method_6_code 3 = .ok (.invokevirtual 24, 3) := by decide +kernel
theorem k210_24_10 : xCa (xMo 210) 24 10 = some (1, 16, 2) := by decide +kernel
theorem n210_24 : xcn (xMo 210) 24 = some 2 := by decide +kernel
theorem d210_6 : decode method_6_code 6 = .ok (.ireturn, 1) := by decide +kernel
theorem d210_7 : decode method_6_code 7 = .ok (.astore_n 3, 1) := by decide +kernel
theorem d210_8 : decode method_6_code 8 = .ok (.ldc 17, 2) := by decide +kernel
theorem d210_10 : decode method_6_code 10 = .ok (.ireturn, 1) := by decide +kernel
set_option maxRecDepth 100000 in
theorem q211 : xMc 211 = method_4_code := rfl
theorem m211 : xMl 211 = 3 ∧ xMret 211 = (some FieldType.int) := by decide +kernel
theorem e211 {X : xX} {d : Nat} {w : xH} {Q : xO → xH → Prop} (x0 : Nat) (x1 : Int32) : Cw X d 211 [.ref x0, .int x1] w Q = Wx X d 211 0 [some (.ref x0), some (.int x1), none] [] w Q := by
  unfold Cw
  rw [m211.1]
  rfl
theorem d211_0 : decode method_4_code 0 = .ok (.aload_n 0, 1) := by decide +kernel
theorem d211_1 : decode method_4_code 1 = .ok (.iload_n 1, 1) := by decide +kernel
theorem d211_2 : decode method_4_code 2 = .ok (.invokevirtual 9, 3) := by decide +kernel
theorem k211_9_10 : xCa (xMo 211) 9 10 = some (1, 13, 1) := by decide +kernel
theorem n211_9 : xcn (xMo 211) 9 = some 1 := by decide +kernel
theorem d211_5 : decode method_4_code 5 = .ok (.ireturn, 1) := by decide +kernel
theorem d211_6 : decode method_4_code 6 = .ok (.astore_n 2, 1) := by decide +kernel
theorem d211_7 : decode method_4_code 7 = .ok (.ldc 17, 2) := by decide +kernel
theorem d211_9 : decode method_4_code 9 = .ok (.ireturn, 1) := by decide +kernel
theorem d211_10 : decode method_4_code 10 = .ok (.astore_n 2, 1) := by decide +kernel
theorem d211_11 : decode method_4_code 11 = .ok (.ldc 20, 2) := by decide +kernel
theorem d211_13 : decode method_4_code 13 = .ok (.ireturn, 1) := by decide +kernel
set_option maxRecDepth 100000 in
theorem q212 : xMc 212 = method_16_code := rfl
theorem m212 : xMl 212 = 2 ∧ xMret 212 = (some FieldType.int) := by decide +kernel
theorem e212 {X : xX} {d : Nat} {w : xH} {Q : xO → xH → Prop} (x0 : Nat) : Cw X d 212 [.ref x0] w Q = Wx X d 212 0 [some (.ref x0), none] [] w Q := by
  unfold Cw
  rw [m212.1]
  rfl
theorem d212_0 : decode method_16_code 0 = .ok (.aload_n 0, 1) := by decide +kernel
theorem d212_1 : decode method_16_code 1 = .ok (.invokevirtual 57, 3) := by decide +kernel
theorem k212_57_10 : xCa (xMo 212) 57 10 = some (1, 30, 0) := by decide +kernel
theorem n212_57 : xcn (xMo 212) 57 = some 0 := by decide +kernel
theorem d212_4 : decode method_16_code 4 = .ok (.ireturn, 1) := by decide +kernel
theorem d212_5 : decode method_16_code 5 = .ok (.astore_n 1, 1) := by decide +kernel
theorem d212_6 : decode method_16_code 6 = .ok (.ldc 20, 2) := by decide +kernel
theorem d212_8 : decode method_16_code 8 = .ok (.ireturn, 1) := by decide +kernel
set_option maxRecDepth 100000 in
theorem q213 : xMc 213 = method_25_code := rfl
theorem m213 : xMl 213 = 3 ∧ xMret 213 = (some FieldType.int) := by decide +kernel
theorem e213 {X : xX} {d : Nat} {w : xH} {Q : xO → xH → Prop} (x0 : Nat) (x1 : Int32) : Cw X d 213 [.ref x0, .int x1] w Q = Wx X d 213 0 [some (.ref x0), some (.int x1), none] [] w Q := by
  unfold Cw
  rw [m213.1]
  rfl
theorem d213_0 : decode method_25_code 0 = .ok (.aload_n 0, 1) := by decide +kernel
theorem d213_1 : decode method_25_code 1 = .ok (.iload_n 1, 1) := by decide +kernel
theorem d213_2 : decode method_25_code 2 = .ok (.invokevirtual 85, 3) := by decide +kernel
theorem k213_85_10 : xCa (xMo 213) 85 10 = some (1, 35, 1) := by decide +kernel
theorem n213_85 : xcn (xMo 213) 85 = some 1 := by decide +kernel
theorem d213_5 : decode method_25_code 5 = .ok (.ireturn, 1) := by decide +kernel
theorem d213_6 : decode method_25_code 6 = .ok (.astore_n 2, 1) := by decide +kernel
theorem d213_7 : decode method_25_code 7 = .ok (.ldc 17, 2) := by decide +kernel
theorem d213_9 : decode method_25_code 9 = .ok (.ireturn, 1) := by decide +kernel
theorem d213_10 : decode method_25_code 10 = .ok (.astore_n 2, 1) := by decide +kernel
theorem d213_11 : decode method_25_code 11 = .ok (.ldc 20, 2) := by decide +kernel
theorem d213_13 : decode method_25_code 13 = .ok (.ireturn, 1) := by decide +kernel
set_option maxRecDepth 100000 in
theorem q214 : xMc 214 = method_26_code := rfl
theorem m214 : xMl 214 = 3 ∧ xMret 214 = (some FieldType.int) := by decide +kernel
theorem e214 {X : xX} {d : Nat} {w : xH} {Q : xO → xH → Prop} (x0 : Nat) (x1 : Int32) : Cw X d 214 [.ref x0, .int x1] w Q = Wx X d 214 0 [some (.ref x0), some (.int x1), none] [] w Q := by
  unfold Cw
  rw [m214.1]
  rfl
theorem d214_0 : decode method_26_code 0 = .ok (.aload_n 0, 1) := by decide +kernel
theorem d214_1 : decode method_26_code 1 = .ok (.iload_n 1, 1) := by decide +kernel
theorem d214_2 : decode method_26_code 2 = .ok (.invokevirtual 88, 3) := by decide +kernel
theorem k214_88_10 : xCa (xMo 214) 88 10 = some (1, 37, 1) := by decide +kernel
theorem n214_88 : xcn (xMo 214) 88 = some 1 := by decide +kernel
theorem d214_5 : decode method_26_code 5 = .ok (.ireturn, 1) := by decide +kernel
theorem d214_6 : decode method_26_code 6 = .ok (.astore_n 2, 1) := by decide +kernel
theorem d214_7 : decode method_26_code 7 = .ok (.ldc 17, 2) := by decide +kernel
theorem d214_9 : decode method_26_code 9 = .ok (.ireturn, 1) := by decide +kernel
theorem d214_10 : decode method_26_code 10 = .ok (.astore_n 2, 1) := by decide +kernel
theorem d214_11 : decode method_26_code 11 = .ok (.ldc 20, 2) := by decide +kernel
theorem d214_13 : decode method_26_code 13 = .ok (.ireturn, 1) := by decide +kernel
set_option maxRecDepth 100000 in
theorem q215 : xMc 215 = method_22_code := rfl
theorem m215 : xMl 215 = 5 ∧ xMret 215 = (some FieldType.int) := by decide +kernel
theorem e215 {X : xX} {d : Nat} {w : xH} {Q : xO → xH → Prop} (x0 : Nat) (x1 : Int32) (x2 : Int32) (x3 : Int32) : Cw X d 215 [.ref x0, .int x1, .int x2, .int x3] w Q = Wx X d 215 0 [some (.ref x0), some (.int x1), some (.int x2), some (.int x3), none] [] w Q := by
  unfold Cw
  rw [m215.1]
  rfl
theorem d215_0 : decode method_22_code 0 = .ok (.aload_n 0, 1) := by decide +kernel
theorem d215_1 : decode method_22_code 1 = .ok (.iload_n 1, 1) := by decide +kernel
theorem d215_2 : decode method_22_code 2 = .ok (.iload_n 2, 1) := by decide +kernel
theorem d215_3 : decode method_22_code 3 = .ok (.iload_n 3, 1) := by decide +kernel
theorem d215_4 : decode method_22_code 4 = .ok (.invokevirtual 76, 3) := by decide +kernel
theorem k215_76_10 : xCa (xMo 215) 76 10 = some (1, 58, 3) := by decide +kernel
theorem n215_76 : xcn (xMo 215) 76 = some 3 := by decide +kernel
theorem d215_7 : decode method_22_code 7 = .ok (.ireturn, 1) := by decide +kernel
theorem d215_8 : decode method_22_code 8 = .ok (.astore 4, 2) := by decide +kernel
theorem d215_10 : decode method_22_code 10 = .ok (.ldc 17, 2) := by decide +kernel
theorem d215_12 : decode method_22_code 12 = .ok (.ireturn, 1) := by decide +kernel
theorem d215_13 : decode method_22_code 13 = .ok (.astore 4, 2) := by decide +kernel
theorem d215_15 : decode method_22_code 15 = .ok (.ldc 20, 2) := by decide +kernel
theorem d215_17 : decode method_22_code 17 = .ok (.ireturn, 1) := by decide +kernel
set_option maxRecDepth 100000 in
theorem q216 : xMc 216 = method_43_code := rfl
theorem m216 : xMl 216 = 6 ∧ xMret 216 = (some FieldType.boolean) ∧ xMh 216 = [] := by decide +kernel
theorem e216 {X : xX} {d : Nat} {w : xH} {Q : xO → xH → Prop} (x0 : Nat) (x1 : Int64) : Cw X d 216 [.ref x0, .long x1] w Q = Wx X d 216 0 [some (.ref x0), some (.long x1), none, none, none, none] [] w Q := by
  unfold Cw
  rw [m216.1]
  rfl
theorem d216_0 : decode method_43_code 0 = .ok (.iconst 1, 1) := by decide +kernel
theorem d216_1 : decode method_43_code 1 = .ok (.istore_n 3, 1) := by decide +kernel
theorem d216_2 : decode method_43_code 2 = .ok (.bipush 56, 2) := by decide +kernel
theorem d216_4 : decode method_43_code 4 = .ok (.istore 4, 2) := by decide +kernel
theorem d216_6 : decode method_43_code 6 = .ok (.iload 4, 2) := by decide +kernel
theorem d216_8 : decode method_43_code 8 = .ok (.ifCond .lt 44, 3) := by decide +kernel
theorem d216_11 : decode method_43_code 11 = .ok (.lload_n 1, 1) := by decide +kernel
theorem d216_12 : decode method_43_code 12 = .ok (.iload 4, 2) := by decide +kernel
theorem d216_14 : decode method_43_code 14 = .ok (.lshr, 1) := by decide +kernel
theorem d216_15 : decode method_43_code 15 = .ok (.ldc2_w 143, 3) := by decide +kernel
theorem d216_18 : decode method_43_code 18 = .ok (.land, 1) := by decide +kernel
theorem d216_19 : decode method_43_code 19 = .ok (.l2i, 1) := by decide +kernel
theorem d216_20 : decode method_43_code 20 = .ok (.istore 5, 2) := by decide +kernel
theorem d216_22 : decode method_43_code 22 = .ok (.iload_n 3, 1) := by decide +kernel
theorem d216_23 : decode method_43_code 23 = .ok (.ifCond .eq 21, 3) := by decide +kernel
theorem d216_26 : decode method_43_code 26 = .ok (.iload 5, 2) := by decide +kernel
theorem d216_28 : decode method_43_code 28 = .ok (.ifCond .eq 12, 3) := by decide +kernel
theorem d216_31 : decode method_43_code 31 = .ok (.aload_n 0, 1) := by decide +kernel
theorem d216_32 : decode method_43_code 32 = .ok (.iload 5, 2) := by decide +kernel
theorem d216_34 : decode method_43_code 34 = .ok (.invokestatic 145, 3) := by decide +kernel
theorem k216_145_99 : xCa (xMo 216) 145 99 = some (0, 211, 2) := by decide +kernel
theorem d216_37 : decode method_43_code 37 = .ok (.ifCond .le 7, 3) := by decide +kernel
theorem d216_40 : decode method_43_code 40 = .ok (.iconst 1, 1) := by decide +kernel
theorem d216_41 : decode method_43_code 41 = .ok (.goto 4, 3) := by decide +kernel
theorem d216_44 : decode method_43_code 44 = .ok (.iconst 0, 1) := by decide +kernel
theorem d216_45 : decode method_43_code 45 = .ok (.istore_n 3, 1) := by decide +kernel
theorem d216_46 : decode method_43_code 46 = .ok (.iinc 4 (-8), 3) := by decide +kernel
theorem d216_49 : decode method_43_code 49 = .ok (.goto (-43), 3) := by decide +kernel
theorem d216_52 : decode method_43_code 52 = .ok (.iload_n 3, 1) := by decide +kernel
theorem d216_53 : decode method_43_code 53 = .ok (.ireturn, 1) := by decide +kernel
set_option maxRecDepth 100000 in
theorem q217 : xMc 217 = method_51_code := rfl
theorem m217 : xMl 217 = 12 ∧ xMret 217 = (some FieldType.boolean) ∧ xMh 217 = [] := by decide +kernel
theorem e217 {X : xX} {d : Nat} {w : xH} {Q : xO → xH → Prop} (x0 : Nat) (x1 : Int32) : Cw X d 217 [.ref x0, .int x1] w Q = Wx X d 217 0 [some (.ref x0), some (.int x1), none, none, none, none, none, none, none, none, none, none] [] w Q := by
  unfold Cw
  rw [m217.1]
  rfl
theorem d217_0 : decode method_51_code 0 = .ok (.iload_n 1, 1) := by decide +kernel
theorem d217_1 : decode method_51_code 1 = .ok (.invokestatic 239, 3) := by decide +kernel
theorem k217_239_99 : xCa (xMo 217) 239 99 = some (0, 203, 1) := by decide +kernel
theorem d217_4 : decode method_51_code 4 = .ok (.istore_n 2, 1) := by decide +kernel
theorem d217_5 : decode method_51_code 5 = .ok (.iload_n 1, 1) := by decide +kernel
theorem d217_6 : decode method_51_code 6 = .ok (.bipush 7, 2) := by decide +kernel
theorem d217_8 : decode method_51_code 8 = .ok (.ishr, 1) := by decide +kernel
theorem d217_9 : decode method_51_code 9 = .ok (.invokestatic 239, 3) := by decide +kernel
theorem d217_12 : decode method_51_code 12 = .ok (.istore_n 3, 1) := by decide +kernel
theorem d217_13 : decode method_51_code 13 = .ok (.iload_n 1, 1) := by decide +kernel
theorem d217_14 : decode method_51_code 14 = .ok (.iconst 4, 1) := by decide +kernel
theorem d217_15 : decode method_51_code 15 = .ok (.ishr, 1) := by decide +kernel
theorem d217_16 : decode method_51_code 16 = .ok (.bipush 60, 2) := by decide +kernel
theorem d217_18 : decode method_51_code 18 = .ok (.invokestatic 150, 3) := by decide +kernel
theorem k217_150_99 : xCa (xMo 217) 150 99 = some (0, 201, 2) := by decide +kernel
theorem d217_21 : decode method_51_code 21 = .ok (.iconst 5, 1) := by decide +kernel
theorem d217_22 : decode method_51_code 22 = .ok (.isub, 1) := by decide +kernel
theorem d217_23 : decode method_51_code 23 = .ok (.istore 4, 2) := by decide +kernel
theorem d217_25 : decode method_51_code 25 = .ok (.aload_n 0, 1) := by decide +kernel
theorem d217_26 : decode method_51_code 26 = .ok (.iload_n 2, 1) := by decide +kernel
theorem d217_27 : decode method_51_code 27 = .ok (.iload 4, 2) := by decide +kernel
theorem d217_29 : decode method_51_code 29 = .ok (.iload_n 3, 1) := by decide +kernel
theorem d217_30 : decode method_51_code 30 = .ok (.invokestatic 215, 3) := by decide +kernel
theorem k217_215_99 : xCa (xMo 217) 215 99 = some (0, 215, 4) := by decide +kernel
theorem d217_33 : decode method_51_code 33 = .ok (.istore 5, 2) := by decide +kernel
theorem d217_35 : decode method_51_code 35 = .ok (.aload_n 0, 1) := by decide +kernel
theorem d217_36 : decode method_51_code 36 = .ok (.iload_n 3, 1) := by decide +kernel
theorem d217_37 : decode method_51_code 37 = .ok (.invokestatic 188, 3) := by decide +kernel
theorem k217_188_99 : xCa (xMo 217) 188 99 = some (0, 213, 2) := by decide +kernel
theorem d217_40 : decode method_51_code 40 = .ok (.istore 6, 2) := by decide +kernel
theorem d217_42 : decode method_51_code 42 = .ok (.iload 6, 2) := by decide +kernel
theorem d217_44 : decode method_51_code 44 = .ok (.ldc 20, 2) := by decide +kernel
theorem d217_46 : decode method_51_code 46 = .ok (.if_icmp .ne 7, 3) := by decide +kernel
theorem d217_49 : decode method_51_code 49 = .ok (.iconst (-1), 1) := by decide +kernel
theorem d217_50 : decode method_51_code 50 = .ok (.goto 11, 3) := by decide +kernel
theorem d217_53 : decode method_51_code 53 = .ok (.aload_n 0, 1) := by decide +kernel
theorem d217_54 : decode method_51_code 54 = .ok (.iload_n 2, 1) := by decide +kernel
theorem d217_55 : decode method_51_code 55 = .ok (.iload_n 3, 1) := by decide +kernel
theorem d217_56 : decode method_51_code 56 = .ok (.iload 6, 2) := by decide +kernel
theorem d217_58 : decode method_51_code 58 = .ok (.invokestatic 218, 3) := by decide +kernel
theorem k217_218_99 : xCa (xMo 217) 218 99 = some (0, 204, 4) := by decide +kernel
theorem d217_61 : decode method_51_code 61 = .ok (.istore 7, 2) := by decide +kernel
theorem d217_63 : decode method_51_code 63 = .ok (.iload 6, 2) := by decide +kernel
theorem d217_65 : decode method_51_code 65 = .ok (.ldc 20, 2) := by decide +kernel
theorem d217_67 : decode method_51_code 67 = .ok (.if_icmp .ne 7, 3) := by decide +kernel
theorem d217_70 : decode method_51_code 70 = .ok (.iconst (-1), 1) := by decide +kernel
theorem d217_71 : decode method_51_code 71 = .ok (.goto 9, 3) := by decide +kernel
theorem d217_74 : decode method_51_code 74 = .ok (.aload_n 0, 1) := by decide +kernel
theorem d217_75 : decode method_51_code 75 = .ok (.iload 6, 2) := by decide +kernel
theorem d217_77 : decode method_51_code 77 = .ok (.invokevirtual 242, 3) := by decide +kernel
theorem k217_242_10 : xCa (xMo 217) 242 10 = some (1, 12, 1) := by decide +kernel
theorem n217_242 : xcn (xMo 217) 242 = some 1 := by decide +kernel
theorem d217_80 : decode method_51_code 80 = .ok (.istore 8, 2) := by decide +kernel
theorem d217_82 : decode method_51_code 82 = .ok (.aload_n 0, 1) := by decide +kernel
theorem d217_83 : decode method_51_code 83 = .ok (.iload_n 2, 1) := by decide +kernel
theorem d217_84 : decode method_51_code 84 = .ok (.invokevirtual 82, 3) := by decide +kernel
theorem k217_82_10 : xCa (xMo 217) 82 10 = some (1, 61, 1) := by decide +kernel
theorem n217_82 : xcn (xMo 217) 82 = some 1 := by decide +kernel
theorem d217_87 : decode method_51_code 87 = .ok (.istore 9, 2) := by decide +kernel
theorem d217_89 : decode method_51_code 89 = .ok (.aload_n 0, 1) := by decide +kernel
theorem d217_90 : decode method_51_code 90 = .ok (.iload_n 3, 1) := by decide +kernel
theorem d217_91 : decode method_51_code 91 = .ok (.iload_n 2, 1) := by decide +kernel
theorem d217_92 : decode method_51_code 92 = .ok (.invokevirtual 66, 3) := by decide +kernel
theorem k217_66_10 : xCa (xMo 217) 66 10 = some (1, 51, 2) := by decide +kernel
theorem n217_66 : xcn (xMo 217) 66 = some 2 := by decide +kernel
theorem d217_95 : decode method_51_code 95 = .ok (.istore 10, 2) := by decide +kernel
theorem d217_97 : decode method_51_code 97 = .ok (.iload_n 2, 1) := by decide +kernel
theorem d217_98 : decode method_51_code 98 = .ok (.iload_n 3, 1) := by decide +kernel
theorem d217_99 : decode method_51_code 99 = .ok (.if_icmp .ne 10, 3) := by decide +kernel
theorem d217_102 : decode method_51_code 102 = .ok (.iload 5, 2) := by decide +kernel
theorem d217_104 : decode method_51_code 104 = .ok (.iload 4, 2) := by decide +kernel
theorem d217_106 : decode method_51_code 106 = .ok (.if_icmp .ne 64, 3) := by decide +kernel
theorem d217_109 : decode method_51_code 109 = .ok (.iload 10, 2) := by decide +kernel
theorem d217_111 : decode method_51_code 111 = .ok (.ifCond .ne 15, 3) := by decide +kernel
theorem d217_114 : decode method_51_code 114 = .ok (.iload_n 2, 1) := by decide +kernel
theorem d217_115 : decode method_51_code 115 = .ok (.iload_n 3, 1) := by decide +kernel
theorem d217_116 : decode method_51_code 116 = .ok (.if_icmp .eq 10, 3) := by decide +kernel
theorem d217_119 : decode method_51_code 119 = .ok (.iload 5, 2) := by decide +kernel
theorem d217_121 : decode method_51_code 121 = .ok (.iload 6, 2) := by decide +kernel
theorem d217_123 : decode method_51_code 123 = .ok (.if_icmp .ne 47, 3) := by decide +kernel
theorem d217_126 : decode method_51_code 126 = .ok (.iload 7, 2) := by decide +kernel
theorem d217_128 : decode method_51_code 128 = .ok (.iconst (-1), 1) := by decide +kernel
theorem d217_129 : decode method_51_code 129 = .ok (.if_icmp .eq 23, 3) := by decide +kernel
theorem d217_132 : decode method_51_code 132 = .ok (.iload 7, 2) := by decide +kernel
theorem d217_134 : decode method_51_code 134 = .ok (.bipush 50, 2) := by decide +kernel
theorem d217_136 : decode method_51_code 136 = .ok (.if_icmp .gt 34, 3) := by decide +kernel
theorem d217_139 : decode method_51_code 139 = .ok (.aload_n 0, 1) := by decide +kernel
theorem d217_140 : decode method_51_code 140 = .ok (.iload_n 2, 1) := by decide +kernel
theorem d217_141 : decode method_51_code 141 = .ok (.iload 7, 2) := by decide +kernel
theorem d217_143 : decode method_51_code 143 = .ok (.iload_n 3, 1) := by decide +kernel
theorem d217_144 : decode method_51_code 144 = .ok (.invokestatic 215, 3) := by decide +kernel
theorem d217_147 : decode method_51_code 147 = .ok (.iload 6, 2) := by decide +kernel
theorem d217_149 : decode method_51_code 149 = .ok (.if_icmp .ne 21, 3) := by decide +kernel
theorem d217_152 : decode method_51_code 152 = .ok (.iload 9, 2) := by decide +kernel
theorem d217_154 : decode method_51_code 154 = .ok (.ifCond .lt 16, 3) := by decide +kernel
theorem d217_157 : decode method_51_code 157 = .ok (.iload 9, 2) := by decide +kernel
theorem d217_159 : decode method_51_code 159 = .ok (.aload_n 0, 1) := by decide +kernel
theorem d217_160 : decode method_51_code 160 = .ok (.invokevirtual 227, 3) := by decide +kernel
theorem k217_227_10 : xCa (xMo 217) 227 10 = some (1, 7, 0) := by decide +kernel
theorem n217_227 : xcn (xMo 217) 227 = some 0 := by decide +kernel
theorem d217_163 : decode method_51_code 163 = .ok (.if_icmp .gt 7, 3) := by decide +kernel
theorem d217_166 : decode method_51_code 166 = .ok (.iconst 1, 1) := by decide +kernel
theorem d217_167 : decode method_51_code 167 = .ok (.goto 4, 3) := by decide +kernel
theorem d217_170 : decode method_51_code 170 = .ok (.iconst 0, 1) := by decide +kernel
theorem d217_171 : decode method_51_code 171 = .ok (.istore 11, 2) := by decide +kernel
theorem d217_173 : decode method_51_code 173 = .ok (.iload 11, 2) := by decide +kernel
theorem d217_175 : decode method_51_code 175 = .ok (.ifCond .eq 115, 3) := by decide +kernel
theorem d217_178 : decode method_51_code 178 = .ok (.iload 6, 2) := by decide +kernel
theorem d217_180 : decode method_51_code 180 = .ok (.ldc 20, 2) := by decide +kernel
theorem d217_182 : decode method_51_code 182 = .ok (.if_icmp .eq 33, 3) := by decide +kernel
theorem d217_185 : decode method_51_code 185 = .ok (.aload_n 0, 1) := by decide +kernel
theorem d217_186 : decode method_51_code 186 = .ok (.iload_n 3, 1) := by decide +kernel
theorem d217_187 : decode method_51_code 187 = .ok (.invokevirtual 91, 3) := by decide +kernel
theorem k217_91_10 : xCa (xMo 217) 91 10 = some (1, 31, 1) := by decide +kernel
theorem n217_91 : xcn (xMo 217) 91 = some 1 := by decide +kernel
theorem d217_190 : decode method_51_code 190 = .ok (.ifCond .ne 25, 3) := by decide +kernel
theorem d217_193 : decode method_51_code 193 = .ok (.iload 8, 2) := by decide +kernel
theorem d217_195 : decode method_51_code 195 = .ok (.ifCond .lt 95, 3) := by decide +kernel
theorem d217_198 : decode method_51_code 198 = .ok (.iload 8, 2) := by decide +kernel
theorem d217_200 : decode method_51_code 200 = .ok (.iload_n 3, 1) := by decide +kernel
theorem d217_201 : decode method_51_code 201 = .ok (.if_icmp .gt 89, 3) := by decide +kernel
theorem d217_204 : decode method_51_code 204 = .ok (.aload_n 0, 1) := by decide +kernel
theorem d217_205 : decode method_51_code 205 = .ok (.iload 8, 2) := by decide +kernel
theorem d217_207 : decode method_51_code 207 = .ok (.invokevirtual 85, 3) := by decide +kernel
theorem k217_85_10 : xCa (xMo 217) 85 10 = some (1, 35, 1) := by decide +kernel
theorem n217_85 : xcn (xMo 217) 85 = some 1 := by decide +kernel
theorem d217_210 : decode method_51_code 210 = .ok (.iload 6, 2) := by decide +kernel
theorem d217_212 : decode method_51_code 212 = .ok (.if_icmp .ne 78, 3) := by decide +kernel
theorem d217_215 : decode method_51_code 215 = .ok (.iload 8, 2) := by decide +kernel
theorem d217_217 : decode method_51_code 217 = .ok (.iconst (-1), 1) := by decide +kernel
theorem d217_218 : decode method_51_code 218 = .ok (.if_icmp .eq 12, 3) := by decide +kernel
theorem d217_221 : decode method_51_code 221 = .ok (.aload_n 0, 1) := by decide +kernel
theorem d217_222 : decode method_51_code 222 = .ok (.iload 8, 2) := by decide +kernel
theorem d217_224 : decode method_51_code 224 = .ok (.invokevirtual 91, 3) := by decide +kernel
theorem d217_227 : decode method_51_code 227 = .ok (.ifCond .ne 63, 3) := by decide +kernel
theorem d217_230 : decode method_51_code 230 = .ok (.aload_n 0, 1) := by decide +kernel
theorem d217_231 : decode method_51_code 231 = .ok (.iload_n 2, 1) := by decide +kernel
theorem d217_232 : decode method_51_code 232 = .ok (.invokevirtual 95, 3) := by decide +kernel
theorem k217_95_10 : xCa (xMo 217) 95 10 = some (1, 32, 1) := by decide +kernel
theorem n217_95 : xcn (xMo 217) 95 = some 1 := by decide +kernel
theorem d217_235 : decode method_51_code 235 = .ok (.ifCond .ne 51, 3) := by decide +kernel
theorem d217_238 : decode method_51_code 238 = .ok (.aload_n 0, 1) := by decide +kernel
theorem d217_239 : decode method_51_code 239 = .ok (.iload_n 2, 1) := by decide +kernel
theorem d217_240 : decode method_51_code 240 = .ok (.invokevirtual 91, 3) := by decide +kernel
theorem d217_243 : decode method_51_code 243 = .ok (.ifCond .ne 43, 3) := by decide +kernel
theorem d217_246 : decode method_51_code 246 = .ok (.aload_n 0, 1) := by decide +kernel
theorem d217_247 : decode method_51_code 247 = .ok (.iload_n 2, 1) := by decide +kernel
theorem d217_248 : decode method_51_code 248 = .ok (.invokevirtual 85, 3) := by decide +kernel
theorem d217_251 : decode method_51_code 251 = .ok (.ifCond .lt 35, 3) := by decide +kernel
theorem d217_254 : decode method_51_code 254 = .ok (.aload_n 0, 1) := by decide +kernel
theorem d217_255 : decode method_51_code 255 = .ok (.iload_n 2, 1) := by decide +kernel
theorem d217_256 : decode method_51_code 256 = .ok (.invokevirtual 85, 3) := by decide +kernel
theorem d217_259 : decode method_51_code 259 = .ok (.bipush 50, 2) := by decide +kernel
theorem d217_261 : decode method_51_code 261 = .ok (.if_icmp .gt 25, 3) := by decide +kernel
theorem d217_264 : decode method_51_code 264 = .ok (.iload 6, 2) := by decide +kernel
theorem d217_266 : decode method_51_code 266 = .ok (.ldc 20, 2) := by decide +kernel
theorem d217_268 : decode method_51_code 268 = .ok (.if_icmp .eq 18, 3) := by decide +kernel
theorem d217_271 : decode method_51_code 271 = .ok (.iload 7, 2) := by decide +kernel
theorem d217_273 : decode method_51_code 273 = .ok (.ifCond .lt 17, 3) := by decide +kernel
theorem d217_276 : decode method_51_code 276 = .ok (.iload 7, 2) := by decide +kernel
theorem d217_278 : decode method_51_code 278 = .ok (.aload_n 0, 1) := by decide +kernel
theorem d217_279 : decode method_51_code 279 = .ok (.iload_n 2, 1) := by decide +kernel
theorem d217_280 : decode method_51_code 280 = .ok (.invokevirtual 85, 3) := by decide +kernel
theorem d217_283 : decode method_51_code 283 = .ok (.if_icmp .gt 7, 3) := by decide +kernel
theorem d217_286 : decode method_51_code 286 = .ok (.iconst 1, 1) := by decide +kernel
theorem d217_287 : decode method_51_code 287 = .ok (.goto 4, 3) := by decide +kernel
theorem d217_290 : decode method_51_code 290 = .ok (.iconst 0, 1) := by decide +kernel
theorem d217_291 : decode method_51_code 291 = .ok (.istore 11, 2) := by decide +kernel
theorem d217_293 : decode method_51_code 293 = .ok (.iload 11, 2) := by decide +kernel
theorem d217_295 : decode method_51_code 295 = .ok (.ifCond .eq 34, 3) := by decide +kernel
theorem d217_298 : decode method_51_code 298 = .ok (.aload_n 0, 1) := by decide +kernel
theorem d217_299 : decode method_51_code 299 = .ok (.iload_n 2, 1) := by decide +kernel
theorem d217_300 : decode method_51_code 300 = .ok (.invokevirtual 128, 3) := by decide +kernel
theorem k217_128_10 : xCa (xMo 217) 128 10 = some (1, 50, 1) := by decide +kernel
theorem n217_128 : xcn (xMo 217) 128 = some 1 := by decide +kernel
theorem d217_303 : decode method_51_code 303 = .ok (.aload_n 0, 1) := by decide +kernel
theorem d217_304 : decode method_51_code 304 = .ok (.iload_n 2, 1) := by decide +kernel
theorem d217_305 : decode method_51_code 305 = .ok (.invokevirtual 125, 3) := by decide +kernel
theorem k217_125_10 : xCa (xMo 217) 125 10 = some (1, 49, 1) := by decide +kernel
theorem n217_125 : xcn (xMo 217) 125 = some 1 := by decide +kernel
theorem d217_308 : decode method_51_code 308 = .ok (.if_icmp .lt 21, 3) := by decide +kernel
theorem d217_311 : decode method_51_code 311 = .ok (.aload_n 0, 1) := by decide +kernel
theorem d217_312 : decode method_51_code 312 = .ok (.iload_n 2, 1) := by decide +kernel
theorem d217_313 : decode method_51_code 313 = .ok (.invokevirtual 116, 3) := by decide +kernel
theorem k217_116_10 : xCa (xMo 217) 116 10 = some (1, 52, 1) := by decide +kernel
theorem n217_116 : xcn (xMo 217) 116 = some 1 := by decide +kernel
theorem d217_316 : decode method_51_code 316 = .ok (.aload_n 0, 1) := by decide +kernel
theorem d217_317 : decode method_51_code 317 = .ok (.iload_n 2, 1) := by decide +kernel
theorem d217_318 : decode method_51_code 318 = .ok (.iload_n 2, 1) := by decide +kernel
theorem d217_319 : decode method_51_code 319 = .ok (.invokevirtual 66, 3) := by decide +kernel
theorem d217_322 : decode method_51_code 322 = .ok (.if_icmp .ne 7, 3) := by decide +kernel
theorem d217_325 : decode method_51_code 325 = .ok (.iconst 1, 1) := by decide +kernel
theorem d217_326 : decode method_51_code 326 = .ok (.goto 4, 3) := by decide +kernel
theorem d217_329 : decode method_51_code 329 = .ok (.iconst 0, 1) := by decide +kernel
theorem d217_330 : decode method_51_code 330 = .ok (.ireturn, 1) := by decide +kernel
end
