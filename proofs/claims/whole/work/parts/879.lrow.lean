/-! The law: its rows 9 (written by wip/whole/genlaw.py) -/
section
theorem d417_2674 : decode code 2674 = .ok (.iload 4, 2) := by decide +kernel
theorem d417_2676 : decode code 2676 = .ok (.iconst 1, 1) := by decide +kernel
theorem d417_2677 : decode code 2677 = .ok (.iadd, 1) := by decide +kernel
theorem d417_2678 : decode code 2678 = .ok (.iaload, 1) := by decide +kernel
theorem d417_2679 : decode code 2679 = .ok (.aload_n 0, 1) := by decide +kernel
theorem d417_2680 : decode code 2680 = .ok (.iload 4, 2) := by decide +kernel
theorem d417_2682 : decode code 2682 = .ok (.iconst 2, 1) := by decide +kernel
theorem d417_2683 : decode code 2683 = .ok (.iadd, 1) := by decide +kernel
theorem d417_2684 : decode code 2684 = .ok (.iaload, 1) := by decide +kernel
theorem d417_2685 : decode code 2685 = .ok (.aload_n 0, 1) := by decide +kernel
theorem d417_2686 : decode code 2686 = .ok (.iload 4, 2) := by decide +kernel
theorem d417_2688 : decode code 2688 = .ok (.iconst 3, 1) := by decide +kernel
theorem d417_2689 : decode code 2689 = .ok (.iadd, 1) := by decide +kernel
theorem d417_2690 : decode code 2690 = .ok (.iaload, 1) := by decide +kernel
theorem d417_2691 : decode code 2691 = .ok (.invokevirtual 308, 3) := by decide +kernel
theorem d417_2694 : decode code 2694 = .ok (.istore 6, 2) := by decide +kernel
theorem d417_2696 : decode code 2696 = .ok (.aload_n 2, 1) := by decide +kernel
theorem d417_2697 : decode code 2697 = .ok (.invokevirtual 147, 3) := by decide +kernel
theorem d417_2700 : decode code 2700 = .ok (.iload 5, 2) := by decide +kernel
theorem d417_2702 : decode code 2702 = .ok (.if_icmp .eq 5, 3) := by decide +kernel
theorem d417_2705 : decode code 2705 = .ok (.iconst 0, 1) := by decide +kernel
theorem d417_2706 : decode code 2706 = .ok (.ireturn, 1) := by decide +kernel
theorem d417_2707 : decode code 2707 = .ok (.iload 5, 2) := by decide +kernel
theorem d417_2709 : decode code 2709 = .ok (.ifCond .ne 15, 3) := by decide +kernel
theorem d417_2712 : decode code 2712 = .ok (.aload_n 3, 1) := by decide +kernel
theorem d417_2713 : decode code 2713 = .ok (.iconst 0, 1) := by decide +kernel
theorem d417_2714 : decode code 2714 = .ok (.laload, 1) := by decide +kernel
theorem d417_2715 : decode code 2715 = .ok (.iload 6, 2) := by decide +kernel
theorem d417_2717 : decode code 2717 = .ok (.i2l, 1) := by decide +kernel
theorem d417_2718 : decode code 2718 = .ok (.lcmp, 1) := by decide +kernel
theorem d417_2719 : decode code 2719 = .ok (.ifCond .eq 5, 3) := by decide +kernel
theorem d417_2722 : decode code 2722 = .ok (.iconst 0, 1) := by decide +kernel
theorem d417_2723 : decode code 2723 = .ok (.ireturn, 1) := by decide +kernel
theorem d417_2724 : decode code 2724 = .ok (.goto 59, 3) := by decide +kernel
theorem d417_2727 : decode code 2727 = .ok (.aload_n 1, 1) := by decide +kernel
theorem d417_2728 : decode code 2728 = .ok (.aload_n 0, 1) := by decide +kernel
theorem d417_2729 : decode code 2729 = .ok (.iload 4, 2) := by decide +kernel
theorem d417_2731 : decode code 2731 = .ok (.iconst 1, 1) := by decide +kernel
theorem d417_2732 : decode code 2732 = .ok (.iadd, 1) := by decide +kernel
theorem d417_2733 : decode code 2733 = .ok (.iaload, 1) := by decide +kernel
theorem d417_2734 : decode code 2734 = .ok (.aload_n 3, 1) := by decide +kernel
theorem d417_2735 : decode code 2735 = .ok (.invokestatic 309, 3) := by decide +kernel
theorem d417_2738 : decode code 2738 = .ok (.istore 5, 2) := by decide +kernel
theorem d417_2740 : decode code 2740 = .ok (.aload_n 2, 1) := by decide +kernel
theorem d417_2741 : decode code 2741 = .ok (.aload_n 0, 1) := by decide +kernel
theorem d417_2742 : decode code 2742 = .ok (.iload 4, 2) := by decide +kernel
theorem d417_2744 : decode code 2744 = .ok (.iconst 1, 1) := by decide +kernel
theorem d417_2745 : decode code 2745 = .ok (.iadd, 1) := by decide +kernel
theorem d417_2746 : decode code 2746 = .ok (.iaload, 1) := by decide +kernel
theorem d417_2747 : decode code 2747 = .ok (.invokevirtual 311, 3) := by decide +kernel
theorem d417_2750 : decode code 2750 = .ok (.istore 6, 2) := by decide +kernel
theorem d417_2752 : decode code 2752 = .ok (.aload_n 2, 1) := by decide +kernel
theorem d417_2753 : decode code 2753 = .ok (.invokevirtual 147, 3) := by decide +kernel
theorem d417_2756 : decode code 2756 = .ok (.iload 5, 2) := by decide +kernel
theorem d417_2758 : decode code 2758 = .ok (.if_icmp .eq 5, 3) := by decide +kernel
theorem d417_2761 : decode code 2761 = .ok (.iconst 0, 1) := by decide +kernel
theorem d417_2762 : decode code 2762 = .ok (.ireturn, 1) := by decide +kernel
theorem d417_2763 : decode code 2763 = .ok (.iload 5, 2) := by decide +kernel
theorem d417_2765 : decode code 2765 = .ok (.ifCond .ne 15, 3) := by decide +kernel
theorem d417_2768 : decode code 2768 = .ok (.aload_n 3, 1) := by decide +kernel
theorem d417_2769 : decode code 2769 = .ok (.iconst 0, 1) := by decide +kernel
theorem d417_2770 : decode code 2770 = .ok (.laload, 1) := by decide +kernel
theorem d417_2771 : decode code 2771 = .ok (.iload 6, 2) := by decide +kernel
theorem d417_2773 : decode code 2773 = .ok (.i2l, 1) := by decide +kernel
theorem d417_2774 : decode code 2774 = .ok (.lcmp, 1) := by decide +kernel
theorem d417_2775 : decode code 2775 = .ok (.ifCond .eq 5, 3) := by decide +kernel
theorem d417_2778 : decode code 2778 = .ok (.iconst 0, 1) := by decide +kernel
theorem d417_2779 : decode code 2779 = .ok (.ireturn, 1) := by decide +kernel
theorem d417_2780 : decode code 2780 = .ok (.goto 3, 3) := by decide +kernel
theorem d417_2783 : decode code 2783 = .ok (.iinc 4 4, 3) := by decide +kernel
theorem d417_2786 : decode code 2786 = .ok (.goto (-2763), 3) := by decide +kernel
theorem d417_2789 : decode code 2789 = .ok (.iconst 1, 1) := by decide +kernel
theorem d417_2790 : decode code 2790 = .ok (.ireturn, 1) := by decide +kernel
set_option maxRecDepth 100000 in
theorem q417 : xMc 417 = code := rfl
theorem m417 : xMl 417 = 9 ∧ xMret 417 = some FieldType.boolean ∧ xMh 417 = [] := by decide +kernel
theorem k417_137_98 : xCa (xMo 417) 137 98 = some (2, 0, 0) := by decide +kernel
theorem k417_140_98 : xCa (xMo 417) 140 98 = some (2, 217, 0) := by decide +kernel
theorem k417_141_99 : xCa (xMo 417) 141 99 = some (0, 178, 3) := by decide +kernel
theorem k417_146_11 : xCa (xMo 417) 146 11 = some (1, 231, 1) := by decide +kernel
theorem n417_146 : xcn (xMo 417) 146 = some 1 := by decide +kernel
theorem k417_147_11 : xCa (xMo 417) 147 11 = some (1, 230, 0) := by decide +kernel
theorem n417_147 : xcn (xMo 417) 147 = some 0 := by decide +kernel
theorem k417_150_10 : xCa (xMo 417) 150 10 = some (1, 1, 0) := by decide +kernel
theorem n417_150 : xcn (xMo 417) 150 = some 0 := by decide +kernel
theorem k417_153_11 : xCa (xMo 417) 153 11 = some (1, 234, 0) := by decide +kernel
theorem n417_153 : xcn (xMo 417) 153 = some 0 := by decide +kernel
theorem k417_154_10 : xCa (xMo 417) 154 10 = some (1, 2, 0) := by decide +kernel
theorem n417_154 : xcn (xMo 417) 154 = some 0 := by decide +kernel
theorem k417_157_11 : xCa (xMo 417) 157 11 = some (1, 235, 0) := by decide +kernel
theorem n417_157 : xcn (xMo 417) 157 = some 0 := by decide +kernel
theorem k417_158_10 : xCa (xMo 417) 158 10 = some (1, 3, 0) := by decide +kernel
theorem n417_158 : xcn (xMo 417) 158 = some 0 := by decide +kernel
theorem k417_161_11 : xCa (xMo 417) 161 11 = some (1, 258, 0) := by decide +kernel
theorem n417_161 : xcn (xMo 417) 161 = some 0 := by decide +kernel
theorem k417_162_99 : xCa (xMo 417) 162 99 = some (0, 179, 3) := by decide +kernel
theorem k417_164_11 : xCa (xMo 417) 164 11 = some (1, 261, 1) := by decide +kernel
theorem n417_164 : xcn (xMo 417) 164 = some 1 := by decide +kernel
theorem k417_165_99 : xCa (xMo 417) 165 99 = some (0, 180, 4) := by decide +kernel
theorem k417_168_11 : xCa (xMo 417) 168 11 = some (1, 300, 2) := by decide +kernel
theorem n417_168 : xcn (xMo 417) 168 = some 2 := by decide +kernel
theorem k417_169_99 : xCa (xMo 417) 169 99 = some (0, 181, 3) := by decide +kernel
theorem k417_171_11 : xCa (xMo 417) 171 11 = some (1, 301, 1) := by decide +kernel
theorem n417_171 : xcn (xMo 417) 171 = some 1 := by decide +kernel
theorem k417_172_99 : xCa (xMo 417) 172 99 = some (0, 182, 5) := by decide +kernel
theorem k417_175_11 : xCa (xMo 417) 175 11 = some (1, 305, 3) := by decide +kernel
theorem n417_175 : xcn (xMo 417) 175 = some 3 := by decide +kernel
theorem k417_176_99 : xCa (xMo 417) 176 99 = some (0, 183, 4) := by decide +kernel
theorem k417_178_11 : xCa (xMo 417) 178 11 = some (1, 317, 2) := by decide +kernel
theorem n417_178 : xcn (xMo 417) 178 = some 2 := by decide +kernel
theorem k417_179_99 : xCa (xMo 417) 179 99 = some (0, 184, 3) := by decide +kernel
theorem k417_181_11 : xCa (xMo 417) 181 11 = some (1, 320, 1) := by decide +kernel
theorem n417_181 : xcn (xMo 417) 181 = some 1 := by decide +kernel
theorem k417_182_99 : xCa (xMo 417) 182 99 = some (0, 185, 3) := by decide +kernel
theorem k417_184_11 : xCa (xMo 417) 184 11 = some (1, 325, 1) := by decide +kernel
theorem n417_184 : xcn (xMo 417) 184 = some 1 := by decide +kernel
theorem k417_185_99 : xCa (xMo 417) 185 99 = some (0, 186, 3) := by decide +kernel
theorem k417_187_11 : xCa (xMo 417) 187 11 = some (1, 328, 1) := by decide +kernel
theorem n417_187 : xcn (xMo 417) 187 = some 1 := by decide +kernel
theorem k417_188_99 : xCa (xMo 417) 188 99 = some (0, 187, 3) := by decide +kernel
theorem k417_190_11 : xCa (xMo 417) 190 11 = some (1, 329, 1) := by decide +kernel
theorem n417_190 : xcn (xMo 417) 190 = some 1 := by decide +kernel
theorem k417_191_99 : xCa (xMo 417) 191 99 = some (0, 188, 2) := by decide +kernel
theorem k417_194_11 : xCa (xMo 417) 194 11 = some (1, 302, 0) := by decide +kernel
theorem n417_194 : xcn (xMo 417) 194 = some 0 := by decide +kernel
theorem k417_195_99 : xCa (xMo 417) 195 99 = some (0, 189, 2) := by decide +kernel
theorem k417_197_11 : xCa (xMo 417) 197 11 = some (1, 330, 0) := by decide +kernel
theorem n417_197 : xcn (xMo 417) 197 = some 0 := by decide +kernel
theorem k417_198_10 : xCa (xMo 417) 198 10 = some (1, 4, 0) := by decide +kernel
theorem n417_198 : xcn (xMo 417) 198 = some 0 := by decide +kernel
theorem k417_201_11 : xCa (xMo 417) 201 11 = some (1, 331, 0) := by decide +kernel
theorem n417_201 : xcn (xMo 417) 201 = some 0 := by decide +kernel
theorem k417_202_99 : xCa (xMo 417) 202 99 = some (0, 190, 2) := by decide +kernel
theorem k417_204_11 : xCa (xMo 417) 204 11 = some (1, 332, 0) := by decide +kernel
theorem n417_204 : xcn (xMo 417) 204 = some 0 := by decide +kernel
theorem k417_205_99 : xCa (xMo 417) 205 99 = some (0, 191, 3) := by decide +kernel
theorem k417_207_11 : xCa (xMo 417) 207 11 = some (1, 334, 1) := by decide +kernel
theorem n417_207 : xcn (xMo 417) 207 = some 1 := by decide +kernel
theorem k417_208_99 : xCa (xMo 417) 208 99 = some (0, 192, 3) := by decide +kernel
theorem k417_210_11 : xCa (xMo 417) 210 11 = some (1, 335, 1) := by decide +kernel
theorem n417_210 : xcn (xMo 417) 210 = some 1 := by decide +kernel
theorem k417_211_99 : xCa (xMo 417) 211 99 = some (0, 193, 3) := by decide +kernel
theorem k417_213_11 : xCa (xMo 417) 213 11 = some (1, 336, 1) := by decide +kernel
theorem n417_213 : xcn (xMo 417) 213 = some 1 := by decide +kernel
theorem k417_214_99 : xCa (xMo 417) 214 99 = some (0, 194, 3) := by decide +kernel
theorem k417_216_11 : xCa (xMo 417) 216 11 = some (1, 338, 1) := by decide +kernel
theorem n417_216 : xcn (xMo 417) 216 = some 1 := by decide +kernel
theorem k417_217_99 : xCa (xMo 417) 217 99 = some (0, 195, 3) := by decide +kernel
theorem k417_219_11 : xCa (xMo 417) 219 11 = some (1, 340, 1) := by decide +kernel
theorem n417_219 : xcn (xMo 417) 219 = some 1 := by decide +kernel
theorem k417_220_99 : xCa (xMo 417) 220 99 = some (0, 196, 3) := by decide +kernel
theorem k417_222_11 : xCa (xMo 417) 222 11 = some (1, 341, 1) := by decide +kernel
theorem n417_222 : xcn (xMo 417) 222 = some 1 := by decide +kernel
theorem k417_223_99 : xCa (xMo 417) 223 99 = some (0, 197, 3) := by decide +kernel
theorem k417_225_11 : xCa (xMo 417) 225 11 = some (1, 342, 1) := by decide +kernel
theorem n417_225 : xcn (xMo 417) 225 = some 1 := by decide +kernel
theorem k417_226_99 : xCa (xMo 417) 226 99 = some (0, 198, 3) := by decide +kernel
theorem k417_228_11 : xCa (xMo 417) 228 11 = some (1, 343, 1) := by decide +kernel
theorem n417_228 : xcn (xMo 417) 228 = some 1 := by decide +kernel
theorem k417_229_99 : xCa (xMo 417) 229 99 = some (0, 199, 3) := by decide +kernel
theorem k417_231_11 : xCa (xMo 417) 231 11 = some (1, 344, 1) := by decide +kernel
theorem n417_231 : xcn (xMo 417) 231 = some 1 := by decide +kernel
theorem k417_232_99 : xCa (xMo 417) 232 99 = some (0, 200, 3) := by decide +kernel
theorem k417_234_11 : xCa (xMo 417) 234 11 = some (1, 345, 1) := by decide +kernel
theorem n417_234 : xcn (xMo 417) 234 = some 1 := by decide +kernel
theorem k417_235_99 : xCa (xMo 417) 235 99 = some (0, 201, 3) := by decide +kernel
theorem k417_237_11 : xCa (xMo 417) 237 11 = some (1, 346, 1) := by decide +kernel
theorem n417_237 : xcn (xMo 417) 237 = some 1 := by decide +kernel
theorem k417_238_99 : xCa (xMo 417) 238 99 = some (0, 202, 4) := by decide +kernel
theorem k417_240_11 : xCa (xMo 417) 240 11 = some (1, 351, 2) := by decide +kernel
theorem n417_240 : xcn (xMo 417) 240 = some 2 := by decide +kernel
theorem k417_241_99 : xCa (xMo 417) 241 99 = some (0, 203, 3) := by decide +kernel
theorem k417_243_11 : xCa (xMo 417) 243 11 = some (1, 356, 1) := by decide +kernel
theorem n417_243 : xcn (xMo 417) 243 = some 1 := by decide +kernel
theorem k417_244_99 : xCa (xMo 417) 244 99 = some (0, 204, 4) := by decide +kernel
theorem k417_246_11 : xCa (xMo 417) 246 11 = some (1, 357, 2) := by decide +kernel
theorem n417_246 : xcn (xMo 417) 246 = some 2 := by decide +kernel
theorem k417_247_99 : xCa (xMo 417) 247 99 = some (0, 205, 3) := by decide +kernel
theorem k417_249_11 : xCa (xMo 417) 249 11 = some (1, 358, 1) := by decide +kernel
theorem n417_249 : xcn (xMo 417) 249 = some 1 := by decide +kernel
theorem k417_250_99 : xCa (xMo 417) 250 99 = some (0, 206, 3) := by decide +kernel
theorem k417_252_11 : xCa (xMo 417) 252 11 = some (1, 359, 1) := by decide +kernel
theorem n417_252 : xcn (xMo 417) 252 = some 1 := by decide +kernel
theorem k417_253_99 : xCa (xMo 417) 253 99 = some (0, 207, 4) := by decide +kernel
theorem k417_255_11 : xCa (xMo 417) 255 11 = some (1, 360, 2) := by decide +kernel
theorem n417_255 : xcn (xMo 417) 255 = some 2 := by decide +kernel
theorem k417_256_99 : xCa (xMo 417) 256 99 = some (0, 208, 3) := by decide +kernel
theorem k417_258_11 : xCa (xMo 417) 258 11 = some (1, 361, 1) := by decide +kernel
theorem n417_258 : xcn (xMo 417) 258 = some 1 := by decide +kernel
theorem k417_259_99 : xCa (xMo 417) 259 99 = some (0, 209, 3) := by decide +kernel
theorem k417_261_11 : xCa (xMo 417) 261 11 = some (1, 362, 1) := by decide +kernel
theorem n417_261 : xcn (xMo 417) 261 = some 1 := by decide +kernel
theorem k417_262_99 : xCa (xMo 417) 262 99 = some (0, 210, 3) := by decide +kernel
theorem k417_264_11 : xCa (xMo 417) 264 11 = some (1, 363, 1) := by decide +kernel
theorem n417_264 : xcn (xMo 417) 264 = some 1 := by decide +kernel
theorem k417_265_99 : xCa (xMo 417) 265 99 = some (0, 211, 3) := by decide +kernel
theorem k417_267_11 : xCa (xMo 417) 267 11 = some (1, 364, 1) := by decide +kernel
theorem n417_267 : xcn (xMo 417) 267 = some 1 := by decide +kernel
theorem k417_268_10 : xCa (xMo 417) 268 10 = some (1, 6, 0) := by decide +kernel
theorem n417_268 : xcn (xMo 417) 268 = some 0 := by decide +kernel
theorem k417_271_11 : xCa (xMo 417) 271 11 = some (1, 365, 0) := by decide +kernel
theorem n417_271 : xcn (xMo 417) 271 = some 0 := by decide +kernel
theorem k417_272_10 : xCa (xMo 417) 272 10 = some (1, 7, 0) := by decide +kernel
theorem n417_272 : xcn (xMo 417) 272 = some 0 := by decide +kernel
theorem k417_275_11 : xCa (xMo 417) 275 11 = some (1, 366, 0) := by decide +kernel
theorem n417_275 : xcn (xMo 417) 275 = some 0 := by decide +kernel
theorem k417_276_10 : xCa (xMo 417) 276 10 = some (1, 8, 0) := by decide +kernel
theorem n417_276 : xcn (xMo 417) 276 = some 0 := by decide +kernel
theorem k417_279_11 : xCa (xMo 417) 279 11 = some (1, 367, 0) := by decide +kernel
theorem n417_279 : xcn (xMo 417) 279 = some 0 := by decide +kernel
theorem k417_280_10 : xCa (xMo 417) 280 10 = some (1, 9, 0) := by decide +kernel
theorem n417_280 : xcn (xMo 417) 280 = some 0 := by decide +kernel
theorem k417_283_11 : xCa (xMo 417) 283 11 = some (1, 369, 0) := by decide +kernel
theorem n417_283 : xcn (xMo 417) 283 = some 0 := by decide +kernel
theorem k417_284_10 : xCa (xMo 417) 284 10 = some (1, 10, 0) := by decide +kernel
theorem n417_284 : xcn (xMo 417) 284 = some 0 := by decide +kernel
theorem k417_287_11 : xCa (xMo 417) 287 11 = some (1, 370, 0) := by decide +kernel
theorem n417_287 : xcn (xMo 417) 287 = some 0 := by decide +kernel
theorem k417_288_99 : xCa (xMo 417) 288 99 = some (0, 212, 3) := by decide +kernel
theorem k417_290_11 : xCa (xMo 417) 290 11 = some (1, 371, 1) := by decide +kernel
theorem n417_290 : xcn (xMo 417) 290 = some 1 := by decide +kernel
theorem k417_291_99 : xCa (xMo 417) 291 99 = some (0, 213, 3) := by decide +kernel
theorem k417_293_11 : xCa (xMo 417) 293 11 = some (1, 373, 1) := by decide +kernel
theorem n417_293 : xcn (xMo 417) 293 = some 1 := by decide +kernel
theorem k417_294_10 : xCa (xMo 417) 294 10 = some (1, 11, 0) := by decide +kernel
theorem n417_294 : xcn (xMo 417) 294 = some 0 := by decide +kernel
theorem k417_298_11 : xCa (xMo 417) 298 11 = some (1, 374, 0) := by decide +kernel
theorem n417_298 : xcn (xMo 417) 298 = some 0 := by decide +kernel
theorem k417_299_10 : xCa (xMo 417) 299 10 = some (1, 12, 1) := by decide +kernel
theorem n417_299 : xcn (xMo 417) 299 = some 1 := by decide +kernel
theorem k417_302_11 : xCa (xMo 417) 302 11 = some (1, 376, 1) := by decide +kernel
theorem n417_302 : xcn (xMo 417) 302 = some 1 := by decide +kernel
theorem k417_303_99 : xCa (xMo 417) 303 99 = some (0, 214, 5) := by decide +kernel
theorem k417_305_11 : xCa (xMo 417) 305 11 = some (1, 377, 3) := by decide +kernel
theorem n417_305 : xcn (xMo 417) 305 = some 3 := by decide +kernel
theorem k417_306_99 : xCa (xMo 417) 306 99 = some (0, 215, 5) := by decide +kernel
theorem k417_308_11 : xCa (xMo 417) 308 11 = some (1, 378, 3) := by decide +kernel
theorem n417_308 : xcn (xMo 417) 308 = some 3 := by decide +kernel
theorem k417_309_99 : xCa (xMo 417) 309 99 = some (0, 216, 3) := by decide +kernel
theorem k417_311_11 : xCa (xMo 417) 311 11 = some (1, 379, 1) := by decide +kernel
theorem n417_311 : xcn (xMo 417) 311 = some 1 := by decide +kernel
end
