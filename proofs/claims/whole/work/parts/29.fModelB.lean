/-! facts of methods, written by wip/whole/mkfacts.py -/
section
set_option maxRecDepth 100000 in
theorem q299 : xMc 299 = prog_13_method_54_code := rfl
theorem m299 : xMl 299 = 2 ∧ xMret 299 = (some FieldType.int) ∧ xMh 299 = [] := by decide +kernel
theorem e299 {X : xX} {d : Nat} {w : xH} {Q : xO → xH → Prop} (a : Nat) (x0 : Int32) : Cw X d 299 [.ref a, .int x0] w Q = Wx X d 299 0 [some (.ref a), some (.int x0)] [] w Q := by
  unfold Cw
  rw [m299.1]
  rfl
theorem d299_0 : decode prog_13_method_54_code 0 = .ok (.aload_n 0, 1) := by decide +kernel
theorem d299_1 : decode prog_13_method_54_code 1 = .ok (.getfield 7, 3) := by decide +kernel
theorem f299_7 : xFd (xMo 299) 7 = some (11, 0) := by decide +kernel
theorem d299_4 : decode prog_13_method_54_code 4 = .ok (.sipush 600, 3) := by decide +kernel
theorem d299_7 : decode prog_13_method_54_code 7 = .ok (.iload_n 1, 1) := by decide +kernel
theorem d299_8 : decode prog_13_method_54_code 8 = .ok (.iastore, 1) := by decide +kernel
theorem d299_9 : decode prog_13_method_54_code 9 = .ok (.aload_n 0, 1) := by decide +kernel
theorem d299_10 : decode prog_13_method_54_code 10 = .ok (.getfield 7, 3) := by decide +kernel
theorem d299_13 : decode prog_13_method_54_code 13 = .ok (.sipush 601, 3) := by decide +kernel
theorem d299_16 : decode prog_13_method_54_code 16 = .ok (.dup2, 1) := by decide +kernel
theorem d299_17 : decode prog_13_method_54_code 17 = .ok (.iaload, 1) := by decide +kernel
theorem d299_18 : decode prog_13_method_54_code 18 = .ok (.iload_n 1, 1) := by decide +kernel
theorem d299_19 : decode prog_13_method_54_code 19 = .ok (.iadd, 1) := by decide +kernel
theorem d299_20 : decode prog_13_method_54_code 20 = .ok (.iastore, 1) := by decide +kernel
theorem d299_21 : decode prog_13_method_54_code 21 = .ok (.iload_n 1, 1) := by decide +kernel
theorem d299_22 : decode prog_13_method_54_code 22 = .ok (.ireturn, 1) := by decide +kernel
set_option maxRecDepth 100000 in
theorem q300 : xMc 300 = prog_13_method_87_code := rfl
theorem m300 : xMl 300 = 3 ∧ xMret 300 = (some FieldType.int) ∧ xMh 300 = [] := by decide +kernel
theorem e300 {X : xX} {d : Nat} {w : xH} {Q : xO → xH → Prop} (a : Nat) (x0 : Int32) (x1 : Int32) : Cw X d 300 [.ref a, .int x0, .int x1] w Q = Wx X d 300 0 [some (.ref a), some (.int x0), some (.int x1)] [] w Q := by
  unfold Cw
  rw [m300.1]
  rfl
theorem d300_0 : decode prog_13_method_87_code 0 = .ok (.aload_n 0, 1) := by decide +kernel
theorem d300_1 : decode prog_13_method_87_code 1 = .ok (.iload_n 1, 1) := by decide +kernel
theorem d300_2 : decode prog_13_method_87_code 2 = .ok (.invokestatic 392, 3) := by decide +kernel
theorem k300_392_99 : xCa (xMo 300) 392 99 = some (0, 262, 1) := by decide +kernel
theorem d300_5 : decode prog_13_method_87_code 5 = .ok (.ifCond .eq 20, 3) := by decide +kernel
theorem d300_8 : decode prog_13_method_87_code 8 = .ok (.iload_n 2, 1) := by decide +kernel
theorem d300_9 : decode prog_13_method_87_code 9 = .ok (.ldc_w 408, 3) := by decide +kernel
theorem d300_12 : decode prog_13_method_87_code 12 = .ok (.ldc_w 409, 3) := by decide +kernel
theorem d300_15 : decode prog_13_method_87_code 15 = .ok (.invokestatic 91, 3) := by decide +kernel
theorem k300_91_99 : xCa (xMo 300) 91 99 = some (0, 232, 3) := by decide +kernel
theorem d300_18 : decode prog_13_method_87_code 18 = .ok (.ifCond .eq 7, 3) := by decide +kernel
theorem d300_21 : decode prog_13_method_87_code 21 = .ok (.iconst 1, 1) := by decide +kernel
theorem d300_22 : decode prog_13_method_87_code 22 = .ok (.goto 4, 3) := by decide +kernel
theorem d300_25 : decode prog_13_method_87_code 25 = .ok (.iconst 0, 1) := by decide +kernel
theorem d300_26 : decode prog_13_method_87_code 26 = .ok (.invokevirtual 395, 3) := by decide +kernel
theorem k300_395_11 : xCa (xMo 300) 395 11 = some (1, 263, 1) := by decide +kernel
theorem n300_395 : xcn (xMo 300) 395 = some 1 := by decide +kernel
theorem d300_29 : decode prog_13_method_87_code 29 = .ok (.ifCond .ne 5, 3) := by decide +kernel
theorem d300_32 : decode prog_13_method_87_code 32 = .ok (.iconst 0, 1) := by decide +kernel
theorem d300_33 : decode prog_13_method_87_code 33 = .ok (.ireturn, 1) := by decide +kernel
theorem d300_34 : decode prog_13_method_87_code 34 = .ok (.aload_n 0, 1) := by decide +kernel
theorem d300_35 : decode prog_13_method_87_code 35 = .ok (.invokevirtual 399, 3) := by decide +kernel
theorem k300_399_11 : xCa (xMo 300) 399 11 = some (1, 264, 0) := by decide +kernel
theorem n300_399 : xcn (xMo 300) 399 = some 0 := by decide +kernel
theorem d300_38 : decode prog_13_method_87_code 38 = .ok (.aload_n 0, 1) := by decide +kernel
theorem d300_39 : decode prog_13_method_87_code 39 = .ok (.iload_n 1, 1) := by decide +kernel
theorem d300_40 : decode prog_13_method_87_code 40 = .ok (.invokevirtual 379, 3) := by decide +kernel
theorem k300_379_11 : xCa (xMo 300) 379 11 = some (1, 268, 1) := by decide +kernel
theorem n300_379 : xcn (xMo 300) 379 = some 1 := by decide +kernel
theorem d300_43 : decode prog_13_method_87_code 43 = .ok (.aload_n 0, 1) := by decide +kernel
theorem d300_44 : decode prog_13_method_87_code 44 = .ok (.getfield 7, 3) := by decide +kernel
theorem f300_7 : xFd (xMo 300) 7 = some (11, 0) := by decide +kernel
theorem d300_47 : decode prog_13_method_87_code 47 = .ok (.iload_n 1, 1) := by decide +kernel
theorem d300_48 : decode prog_13_method_87_code 48 = .ok (.iconst 1, 1) := by decide +kernel
theorem d300_49 : decode prog_13_method_87_code 49 = .ok (.iastore, 1) := by decide +kernel
theorem d300_50 : decode prog_13_method_87_code 50 = .ok (.aload_n 0, 1) := by decide +kernel
theorem d300_51 : decode prog_13_method_87_code 51 = .ok (.getfield 7, 3) := by decide +kernel
theorem d300_54 : decode prog_13_method_87_code 54 = .ok (.sipush 200, 3) := by decide +kernel
theorem d300_57 : decode prog_13_method_87_code 57 = .ok (.iload_n 1, 1) := by decide +kernel
theorem d300_58 : decode prog_13_method_87_code 58 = .ok (.iadd, 1) := by decide +kernel
theorem d300_59 : decode prog_13_method_87_code 59 = .ok (.iload_n 2, 1) := by decide +kernel
theorem d300_60 : decode prog_13_method_87_code 60 = .ok (.iastore, 1) := by decide +kernel
theorem d300_61 : decode prog_13_method_87_code 61 = .ok (.aload_n 0, 1) := by decide +kernel
theorem d300_62 : decode prog_13_method_87_code 62 = .ok (.iload_n 1, 1) := by decide +kernel
theorem d300_63 : decode prog_13_method_87_code 63 = .ok (.invokevirtual 405, 3) := by decide +kernel
theorem k300_405_11 : xCa (xMo 300) 405 11 = some (1, 270, 1) := by decide +kernel
theorem n300_405 : xcn (xMo 300) 405 = some 1 := by decide +kernel
theorem d300_66 : decode prog_13_method_87_code 66 = .ok (.ireturn, 1) := by decide +kernel
set_option maxRecDepth 100000 in
theorem q301 : xMc 301 = prog_13_method_88_code := rfl
theorem m301 : xMl 301 = 2 ∧ xMret 301 = (some FieldType.int) ∧ xMh 301 = [] := by decide +kernel
theorem e301 {X : xX} {d : Nat} {w : xH} {Q : xO → xH → Prop} (a : Nat) (x0 : Int32) : Cw X d 301 [.ref a, .int x0] w Q = Wx X d 301 0 [some (.ref a), some (.int x0)] [] w Q := by
  unfold Cw
  rw [m301.1]
  rfl
theorem d301_0 : decode prog_13_method_88_code 0 = .ok (.aload_n 0, 1) := by decide +kernel
theorem d301_1 : decode prog_13_method_88_code 1 = .ok (.iload_n 1, 1) := by decide +kernel
theorem d301_2 : decode prog_13_method_88_code 2 = .ok (.invokestatic 392, 3) := by decide +kernel
theorem k301_392_99 : xCa (xMo 301) 392 99 = some (0, 262, 1) := by decide +kernel
theorem d301_5 : decode prog_13_method_88_code 5 = .ok (.invokevirtual 395, 3) := by decide +kernel
theorem k301_395_11 : xCa (xMo 301) 395 11 = some (1, 263, 1) := by decide +kernel
theorem n301_395 : xcn (xMo 301) 395 = some 1 := by decide +kernel
theorem d301_8 : decode prog_13_method_88_code 8 = .ok (.ifCond .ne 5, 3) := by decide +kernel
theorem d301_11 : decode prog_13_method_88_code 11 = .ok (.iconst 0, 1) := by decide +kernel
theorem d301_12 : decode prog_13_method_88_code 12 = .ok (.ireturn, 1) := by decide +kernel
theorem d301_13 : decode prog_13_method_88_code 13 = .ok (.aload_n 0, 1) := by decide +kernel
theorem d301_14 : decode prog_13_method_88_code 14 = .ok (.invokevirtual 399, 3) := by decide +kernel
theorem k301_399_11 : xCa (xMo 301) 399 11 = some (1, 264, 0) := by decide +kernel
theorem n301_399 : xcn (xMo 301) 399 = some 0 := by decide +kernel
theorem d301_17 : decode prog_13_method_88_code 17 = .ok (.aload_n 0, 1) := by decide +kernel
theorem d301_18 : decode prog_13_method_88_code 18 = .ok (.iload_n 1, 1) := by decide +kernel
theorem d301_19 : decode prog_13_method_88_code 19 = .ok (.invokevirtual 379, 3) := by decide +kernel
theorem k301_379_11 : xCa (xMo 301) 379 11 = some (1, 268, 1) := by decide +kernel
theorem n301_379 : xcn (xMo 301) 379 = some 1 := by decide +kernel
theorem d301_22 : decode prog_13_method_88_code 22 = .ok (.aload_n 0, 1) := by decide +kernel
theorem d301_23 : decode prog_13_method_88_code 23 = .ok (.iload_n 1, 1) := by decide +kernel
theorem d301_24 : decode prog_13_method_88_code 24 = .ok (.invokevirtual 405, 3) := by decide +kernel
theorem k301_405_11 : xCa (xMo 301) 405 11 = some (1, 270, 1) := by decide +kernel
theorem n301_405 : xcn (xMo 301) 405 = some 1 := by decide +kernel
theorem d301_27 : decode prog_13_method_88_code 27 = .ok (.ireturn, 1) := by decide +kernel
set_option maxRecDepth 100000 in
theorem q302 : xMc 302 = prog_13_method_89_code := rfl
theorem m302 : xMl 302 = 2 ∧ xMret 302 = (some FieldType.int) ∧ xMh 302 = [] := by decide +kernel
theorem e302 {X : xX} {d : Nat} {w : xH} {Q : xO → xH → Prop} (a : Nat) : Cw X d 302 [.ref a] w Q = Wx X d 302 0 [some (.ref a), none] [] w Q := by
  unfold Cw
  rw [m302.1]
  rfl
theorem d302_0 : decode prog_13_method_89_code 0 = .ok (.aload_n 0, 1) := by decide +kernel
theorem d302_1 : decode prog_13_method_89_code 1 = .ok (.aload_n 0, 1) := by decide +kernel
theorem d302_2 : decode prog_13_method_89_code 2 = .ok (.invokevirtual 389, 3) := by decide +kernel
theorem k302_389_11 : xCa (xMo 302) 389 11 = some (1, 259, 0) := by decide +kernel
theorem n302_389 : xcn (xMo 302) 389 = some 0 := by decide +kernel
theorem d302_5 : decode prog_13_method_89_code 5 = .ok (.invokevirtual 395, 3) := by decide +kernel
theorem k302_395_11 : xCa (xMo 302) 395 11 = some (1, 263, 1) := by decide +kernel
theorem n302_395 : xcn (xMo 302) 395 = some 1 := by decide +kernel
theorem d302_8 : decode prog_13_method_89_code 8 = .ok (.ifCond .ne 5, 3) := by decide +kernel
theorem d302_11 : decode prog_13_method_89_code 11 = .ok (.iconst 0, 1) := by decide +kernel
theorem d302_12 : decode prog_13_method_89_code 12 = .ok (.ireturn, 1) := by decide +kernel
theorem d302_13 : decode prog_13_method_89_code 13 = .ok (.aload_n 0, 1) := by decide +kernel
theorem d302_14 : decode prog_13_method_89_code 14 = .ok (.invokevirtual 399, 3) := by decide +kernel
theorem k302_399_11 : xCa (xMo 302) 399 11 = some (1, 264, 0) := by decide +kernel
theorem n302_399 : xcn (xMo 302) 399 = some 0 := by decide +kernel
theorem d302_17 : decode prog_13_method_89_code 17 = .ok (.iconst 0, 1) := by decide +kernel
theorem d302_18 : decode prog_13_method_89_code 18 = .ok (.istore_n 1, 1) := by decide +kernel
theorem d302_19 : decode prog_13_method_89_code 19 = .ok (.aload_n 0, 1) := by decide +kernel
theorem d302_20 : decode prog_13_method_89_code 20 = .ok (.iconst 0, 1) := by decide +kernel
theorem d302_21 : decode prog_13_method_89_code 21 = .ok (.putfield 276, 3) := by decide +kernel
theorem f302_276 : xFd (xMo 302) 276 = some (11, 35) := by decide +kernel
theorem d302_24 : decode prog_13_method_89_code 24 = .ok (.aload_n 0, 1) := by decide +kernel
theorem d302_25 : decode prog_13_method_89_code 25 = .ok (.getfield 276, 3) := by decide +kernel
theorem d302_28 : decode prog_13_method_89_code 28 = .ok (.aload_n 0, 1) := by decide +kernel
theorem d302_29 : decode prog_13_method_89_code 29 = .ok (.getfield 279, 3) := by decide +kernel
theorem f302_279 : xFd (xMo 302) 279 = some (11, 10) := by decide +kernel
theorem d302_32 : decode prog_13_method_89_code 32 = .ok (.if_icmp .ge 21, 3) := by decide +kernel
theorem d302_35 : decode prog_13_method_89_code 35 = .ok (.aload_n 0, 1) := by decide +kernel
theorem d302_36 : decode prog_13_method_89_code 36 = .ok (.invokevirtual 376, 3) := by decide +kernel
theorem k302_376_11 : xCa (xMo 302) 376 11 = some (1, 260, 0) := by decide +kernel
theorem n302_376 : xcn (xMo 302) 376 = some 0 := by decide +kernel
theorem d302_39 : decode prog_13_method_89_code 39 = .ok (.aload_n 0, 1) := by decide +kernel
theorem d302_40 : decode prog_13_method_89_code 40 = .ok (.aload_n 0, 1) := by decide +kernel
theorem d302_41 : decode prog_13_method_89_code 41 = .ok (.getfield 373, 3) := by decide +kernel
theorem f302_373 : xFd (xMo 302) 373 = some (11, 45) := by decide +kernel
theorem d302_44 : decode prog_13_method_89_code 44 = .ok (.invokevirtual 402, 3) := by decide +kernel
theorem k302_402_11 : xCa (xMo 302) 402 11 = some (1, 267, 1) := by decide +kernel
theorem n302_402 : xcn (xMo 302) 402 = some 1 := by decide +kernel
theorem d302_47 : decode prog_13_method_89_code 47 = .ok (.iinc 1 1, 3) := by decide +kernel
theorem d302_50 : decode prog_13_method_89_code 50 = .ok (.goto (-26), 3) := by decide +kernel
theorem d302_53 : decode prog_13_method_89_code 53 = .ok (.aload_n 0, 1) := by decide +kernel
theorem d302_54 : decode prog_13_method_89_code 54 = .ok (.invokevirtual 410, 3) := by decide +kernel
theorem k302_410_11 : xCa (xMo 302) 410 11 = some (1, 303, 0) := by decide +kernel
theorem n302_410 : xcn (xMo 302) 410 = some 0 := by decide +kernel
theorem d302_57 : decode prog_13_method_89_code 57 = .ok (.iload_n 1, 1) := by decide +kernel
theorem d302_58 : decode prog_13_method_89_code 58 = .ok (.ireturn, 1) := by decide +kernel
set_option maxRecDepth 100000 in
theorem q303 : xMc 303 = prog_13_method_56_code := rfl
theorem m303 : xMl 303 = 2 ∧ xMret 303 = none ∧ xMh 303 = [] := by decide +kernel
theorem e303 {X : xX} {d : Nat} {w : xH} {Q : xO → xH → Prop} (a : Nat) : Cw X d 303 [.ref a] w Q = Wx X d 303 0 [some (.ref a), none] [] w Q := by
  unfold Cw
  rw [m303.1]
  rfl
theorem d303_0 : decode prog_13_method_56_code 0 = .ok (.aload_n 0, 1) := by decide +kernel
theorem d303_1 : decode prog_13_method_56_code 1 = .ok (.invokevirtual 261, 3) := by decide +kernel
theorem k303_261_11 : xCa (xMo 303) 261 11 = some (1, 271, 0) := by decide +kernel
theorem n303_261 : xcn (xMo 303) 261 = some 0 := by decide +kernel
theorem d303_4 : decode prog_13_method_56_code 4 = .ok (.aload_n 0, 1) := by decide +kernel
theorem d303_5 : decode prog_13_method_56_code 5 = .ok (.aload_n 0, 1) := by decide +kernel
theorem d303_6 : decode prog_13_method_56_code 6 = .ok (.iconst 2, 1) := by decide +kernel
theorem d303_7 : decode prog_13_method_56_code 7 = .ok (.invokevirtual 273, 3) := by decide +kernel
theorem k303_273_11 : xCa (xMo 303) 273 11 = some (1, 304, 1) := by decide +kernel
theorem n303_273 : xcn (xMo 303) 273 = some 1 := by decide +kernel
theorem d303_10 : decode prog_13_method_56_code 10 = .ok (.invokevirtual 271, 3) := by decide +kernel
theorem k303_271_11 : xCa (xMo 303) 271 11 = some (1, 299, 1) := by decide +kernel
theorem n303_271 : xcn (xMo 303) 271 = some 1 := by decide +kernel
theorem d303_13 : decode prog_13_method_56_code 13 = .ok (.istore_n 1, 1) := by decide +kernel
theorem d303_14 : decode prog_13_method_56_code 14 = .ok (.return_, 1) := by decide +kernel
set_option maxRecDepth 100000 in
theorem q304 : xMc 304 = prog_13_method_53_code := rfl
theorem m304 : xMl 304 = 4 ∧ xMret 304 = (some FieldType.int) ∧ xMh 304 = [] := by decide +kernel
theorem e304 {X : xX} {d : Nat} {w : xH} {Q : xO → xH → Prop} (a : Nat) (x0 : Int32) : Cw X d 304 [.ref a, .int x0] w Q = Wx X d 304 0 [some (.ref a), some (.int x0), none, none] [] w Q := by
  unfold Cw
  rw [m304.1]
  rfl
theorem d304_0 : decode prog_13_method_53_code 0 = .ok (.iconst 0, 1) := by decide +kernel
theorem d304_1 : decode prog_13_method_53_code 1 = .ok (.istore_n 2, 1) := by decide +kernel
theorem d304_2 : decode prog_13_method_53_code 2 = .ok (.iconst 0, 1) := by decide +kernel
theorem d304_3 : decode prog_13_method_53_code 3 = .ok (.istore_n 3, 1) := by decide +kernel
theorem d304_4 : decode prog_13_method_53_code 4 = .ok (.iload_n 3, 1) := by decide +kernel
theorem d304_5 : decode prog_13_method_53_code 5 = .ok (.sipush 200, 3) := by decide +kernel
theorem d304_8 : decode prog_13_method_53_code 8 = .ok (.if_icmp .ge 26, 3) := by decide +kernel
theorem d304_11 : decode prog_13_method_53_code 11 = .ok (.iload_n 2, 1) := by decide +kernel
theorem d304_12 : decode prog_13_method_53_code 12 = .ok (.aload_n 0, 1) := by decide +kernel
theorem d304_13 : decode prog_13_method_53_code 13 = .ok (.iload_n 3, 1) := by decide +kernel
theorem d304_14 : decode prog_13_method_53_code 14 = .ok (.iload_n 1, 1) := by decide +kernel
theorem d304_15 : decode prog_13_method_53_code 15 = .ok (.invokevirtual 133, 3) := by decide +kernel
theorem k304_133_11 : xCa (xMo 304) 133 11 = some (1, 219, 2) := by decide +kernel
theorem n304_133 : xcn (xMo 304) 133 = some 2 := by decide +kernel
theorem d304_18 : decode prog_13_method_53_code 18 = .ok (.ifCond .eq 7, 3) := by decide +kernel
theorem d304_21 : decode prog_13_method_53_code 21 = .ok (.iconst 1, 1) := by decide +kernel
theorem d304_22 : decode prog_13_method_53_code 22 = .ok (.goto 4, 3) := by decide +kernel
theorem d304_25 : decode prog_13_method_53_code 25 = .ok (.iconst 0, 1) := by decide +kernel
theorem d304_26 : decode prog_13_method_53_code 26 = .ok (.iadd, 1) := by decide +kernel
theorem d304_27 : decode prog_13_method_53_code 27 = .ok (.istore_n 2, 1) := by decide +kernel
theorem d304_28 : decode prog_13_method_53_code 28 = .ok (.iinc 3 1, 3) := by decide +kernel
theorem d304_31 : decode prog_13_method_53_code 31 = .ok (.goto (-27), 3) := by decide +kernel
theorem d304_34 : decode prog_13_method_53_code 34 = .ok (.iload_n 2, 1) := by decide +kernel
theorem d304_35 : decode prog_13_method_53_code 35 = .ok (.ireturn, 1) := by decide +kernel
set_option maxRecDepth 100000 in
theorem q305 : xMc 305 = prog_13_method_103_code := rfl
theorem m305 : xMl 305 = 10 ∧ xMret 305 = (some FieldType.int) ∧ xMh 305 = [] := by decide +kernel
theorem e305 {X : xX} {d : Nat} {w : xH} {Q : xO → xH → Prop} (a : Nat) (x0 : Int32) (x1 : Int32) (x2 : Int32) : Cw X d 305 [.ref a, .int x0, .int x1, .int x2] w Q = Wx X d 305 0 [some (.ref a), some (.int x0), some (.int x1), some (.int x2), none, none, none, none, none, none] [] w Q := by
  unfold Cw
  rw [m305.1]
  rfl
theorem d305_0 : decode prog_13_method_103_code 0 = .ok (.aload_n 0, 1) := by decide +kernel
theorem d305_1 : decode prog_13_method_103_code 1 = .ok (.iload_n 1, 1) := by decide +kernel
theorem d305_2 : decode prog_13_method_103_code 2 = .ok (.invokestatic 392, 3) := by decide +kernel
theorem k305_392_99 : xCa (xMo 305) 392 99 = some (0, 262, 1) := by decide +kernel
theorem d305_5 : decode prog_13_method_103_code 5 = .ok (.ifCond .eq 21, 3) := by decide +kernel
theorem d305_8 : decode prog_13_method_103_code 8 = .ok (.iload_n 2, 1) := by decide +kernel
theorem d305_9 : decode prog_13_method_103_code 9 = .ok (.invokestatic 392, 3) := by decide +kernel
theorem d305_12 : decode prog_13_method_103_code 12 = .ok (.ifCond .eq 14, 3) := by decide +kernel
theorem d305_15 : decode prog_13_method_103_code 15 = .ok (.iload_n 3, 1) := by decide +kernel
theorem d305_16 : decode prog_13_method_103_code 16 = .ok (.invokestatic 392, 3) := by decide +kernel
theorem d305_19 : decode prog_13_method_103_code 19 = .ok (.ifCond .eq 7, 3) := by decide +kernel
theorem d305_22 : decode prog_13_method_103_code 22 = .ok (.iconst 1, 1) := by decide +kernel
theorem d305_23 : decode prog_13_method_103_code 23 = .ok (.goto 4, 3) := by decide +kernel
theorem d305_26 : decode prog_13_method_103_code 26 = .ok (.iconst 0, 1) := by decide +kernel
theorem d305_27 : decode prog_13_method_103_code 27 = .ok (.invokevirtual 395, 3) := by decide +kernel
theorem k305_395_11 : xCa (xMo 305) 395 11 = some (1, 263, 1) := by decide +kernel
theorem n305_395 : xcn (xMo 305) 395 = some 1 := by decide +kernel
theorem d305_30 : decode prog_13_method_103_code 30 = .ok (.ifCond .ne 5, 3) := by decide +kernel
theorem d305_33 : decode prog_13_method_103_code 33 = .ok (.iconst 0, 1) := by decide +kernel
theorem d305_34 : decode prog_13_method_103_code 34 = .ok (.ireturn, 1) := by decide +kernel
theorem d305_35 : decode prog_13_method_103_code 35 = .ok (.iload_n 2, 1) := by decide +kernel
theorem d305_36 : decode prog_13_method_103_code 36 = .ok (.bipush 10, 2) := by decide +kernel
theorem d305_38 : decode prog_13_method_103_code 38 = .ok (.idiv, 1) := by decide +kernel
theorem d305_39 : decode prog_13_method_103_code 39 = .ok (.iload_n 1, 1) := by decide +kernel
theorem d305_40 : decode prog_13_method_103_code 40 = .ok (.bipush 10, 2) := by decide +kernel
theorem d305_42 : decode prog_13_method_103_code 42 = .ok (.idiv, 1) := by decide +kernel
theorem d305_43 : decode prog_13_method_103_code 43 = .ok (.isub, 1) := by decide +kernel
theorem d305_44 : decode prog_13_method_103_code 44 = .ok (.istore 4, 2) := by decide +kernel
theorem d305_46 : decode prog_13_method_103_code 46 = .ok (.iload_n 2, 1) := by decide +kernel
theorem d305_47 : decode prog_13_method_103_code 47 = .ok (.bipush 10, 2) := by decide +kernel
theorem d305_49 : decode prog_13_method_103_code 49 = .ok (.irem, 1) := by decide +kernel
theorem d305_50 : decode prog_13_method_103_code 50 = .ok (.iload_n 1, 1) := by decide +kernel
theorem d305_51 : decode prog_13_method_103_code 51 = .ok (.bipush 10, 2) := by decide +kernel
theorem d305_53 : decode prog_13_method_103_code 53 = .ok (.irem, 1) := by decide +kernel
theorem d305_54 : decode prog_13_method_103_code 54 = .ok (.isub, 1) := by decide +kernel
theorem d305_55 : decode prog_13_method_103_code 55 = .ok (.istore 5, 2) := by decide +kernel
theorem d305_57 : decode prog_13_method_103_code 57 = .ok (.aload_n 0, 1) := by decide +kernel
theorem d305_58 : decode prog_13_method_103_code 58 = .ok (.iload 4, 2) := by decide +kernel
theorem d305_60 : decode prog_13_method_103_code 60 = .ok (.ifCond .lt 12, 3) := by decide +kernel
theorem d305_63 : decode prog_13_method_103_code 63 = .ok (.iload 5, 2) := by decide +kernel
theorem d305_65 : decode prog_13_method_103_code 65 = .ok (.ifCond .lt 7, 3) := by decide +kernel
theorem d305_68 : decode prog_13_method_103_code 68 = .ok (.iconst 1, 1) := by decide +kernel
theorem d305_69 : decode prog_13_method_103_code 69 = .ok (.goto 4, 3) := by decide +kernel
theorem d305_72 : decode prog_13_method_103_code 72 = .ok (.iconst 0, 1) := by decide +kernel
theorem d305_73 : decode prog_13_method_103_code 73 = .ok (.invokevirtual 395, 3) := by decide +kernel
theorem d305_76 : decode prog_13_method_103_code 76 = .ok (.ifCond .ne 5, 3) := by decide +kernel
theorem d305_79 : decode prog_13_method_103_code 79 = .ok (.iconst 0, 1) := by decide +kernel
theorem d305_80 : decode prog_13_method_103_code 80 = .ok (.ireturn, 1) := by decide +kernel
theorem d305_81 : decode prog_13_method_103_code 81 = .ok (.iload_n 3, 1) := by decide +kernel
theorem d305_82 : decode prog_13_method_103_code 82 = .ok (.bipush 10, 2) := by decide +kernel
theorem d305_84 : decode prog_13_method_103_code 84 = .ok (.idiv, 1) := by decide +kernel
theorem d305_85 : decode prog_13_method_103_code 85 = .ok (.iload 4, 2) := by decide +kernel
theorem d305_87 : decode prog_13_method_103_code 87 = .ok (.iadd, 1) := by decide +kernel
theorem d305_88 : decode prog_13_method_103_code 88 = .ok (.bipush 20, 2) := by decide +kernel
theorem d305_90 : decode prog_13_method_103_code 90 = .ok (.if_icmp .ge 15, 3) := by decide +kernel
theorem d305_93 : decode prog_13_method_103_code 93 = .ok (.iload_n 3, 1) := by decide +kernel
theorem d305_94 : decode prog_13_method_103_code 94 = .ok (.bipush 10, 2) := by decide +kernel
theorem d305_96 : decode prog_13_method_103_code 96 = .ok (.irem, 1) := by decide +kernel
theorem d305_97 : decode prog_13_method_103_code 97 = .ok (.iload 5, 2) := by decide +kernel
theorem d305_99 : decode prog_13_method_103_code 99 = .ok (.iadd, 1) := by decide +kernel
theorem d305_100 : decode prog_13_method_103_code 100 = .ok (.bipush 10, 2) := by decide +kernel
theorem d305_102 : decode prog_13_method_103_code 102 = .ok (.if_icmp .lt 9, 3) := by decide +kernel
theorem d305_105 : decode prog_13_method_103_code 105 = .ok (.aload_n 0, 1) := by decide +kernel
theorem d305_106 : decode prog_13_method_103_code 106 = .ok (.iconst 2, 1) := by decide +kernel
theorem d305_107 : decode prog_13_method_103_code 107 = .ok (.invokevirtual 382, 3) := by decide +kernel
theorem k305_382_11 : xCa (xMo 305) 382 11 = some (1, 233, 1) := by decide +kernel
theorem n305_382 : xcn (xMo 305) 382 = some 1 := by decide +kernel
theorem d305_110 : decode prog_13_method_103_code 110 = .ok (.ireturn, 1) := by decide +kernel
theorem d305_111 : decode prog_13_method_103_code 111 = .ok (.aload_n 0, 1) := by decide +kernel
theorem d305_112 : decode prog_13_method_103_code 112 = .ok (.invokevirtual 399, 3) := by decide +kernel
theorem k305_399_11 : xCa (xMo 305) 399 11 = some (1, 264, 0) := by decide +kernel
theorem n305_399 : xcn (xMo 305) 399 = some 0 := by decide +kernel
theorem d305_115 : decode prog_13_method_103_code 115 = .ok (.aload_n 0, 1) := by decide +kernel
theorem d305_116 : decode prog_13_method_103_code 116 = .ok (.iload_n 3, 1) := by decide +kernel
theorem d305_117 : decode prog_13_method_103_code 117 = .ok (.bipush 10, 2) := by decide +kernel
theorem d305_119 : decode prog_13_method_103_code 119 = .ok (.idiv, 1) := by decide +kernel
theorem d305_120 : decode prog_13_method_103_code 120 = .ok (.iload_n 1, 1) := by decide +kernel
theorem d305_121 : decode prog_13_method_103_code 121 = .ok (.bipush 10, 2) := by decide +kernel
theorem d305_123 : decode prog_13_method_103_code 123 = .ok (.idiv, 1) := by decide +kernel
theorem d305_124 : decode prog_13_method_103_code 124 = .ok (.isub, 1) := by decide +kernel
theorem d305_125 : decode prog_13_method_103_code 125 = .ok (.putfield 416, 3) := by decide +kernel
theorem f305_416 : xFd (xMo 305) 416 = some (11, 46) := by decide +kernel
theorem d305_128 : decode prog_13_method_103_code 128 = .ok (.aload_n 0, 1) := by decide +kernel
theorem d305_129 : decode prog_13_method_103_code 129 = .ok (.iload_n 3, 1) := by decide +kernel
theorem d305_130 : decode prog_13_method_103_code 130 = .ok (.bipush 10, 2) := by decide +kernel
theorem d305_132 : decode prog_13_method_103_code 132 = .ok (.irem, 1) := by decide +kernel
theorem d305_133 : decode prog_13_method_103_code 133 = .ok (.iload_n 1, 1) := by decide +kernel
theorem d305_134 : decode prog_13_method_103_code 134 = .ok (.bipush 10, 2) := by decide +kernel
theorem d305_136 : decode prog_13_method_103_code 136 = .ok (.irem, 1) := by decide +kernel
theorem d305_137 : decode prog_13_method_103_code 137 = .ok (.isub, 1) := by decide +kernel
theorem d305_138 : decode prog_13_method_103_code 138 = .ok (.putfield 419, 3) := by decide +kernel
theorem f305_419 : xFd (xMo 305) 419 = some (11, 47) := by decide +kernel
theorem d305_141 : decode prog_13_method_103_code 141 = .ok (.iload 4, 2) := by decide +kernel
theorem d305_143 : decode prog_13_method_103_code 143 = .ok (.iconst 1, 1) := by decide +kernel
theorem d305_144 : decode prog_13_method_103_code 144 = .ok (.iadd, 1) := by decide +kernel
theorem d305_145 : decode prog_13_method_103_code 145 = .ok (.iload 5, 2) := by decide +kernel
theorem d305_147 : decode prog_13_method_103_code 147 = .ok (.iconst 1, 1) := by decide +kernel
theorem d305_148 : decode prog_13_method_103_code 148 = .ok (.iadd, 1) := by decide +kernel
theorem d305_149 : decode prog_13_method_103_code 149 = .ok (.imul, 1) := by decide +kernel
theorem d305_150 : decode prog_13_method_103_code 150 = .ok (.istore 6, 2) := by decide +kernel
theorem d305_152 : decode prog_13_method_103_code 152 = .ok (.iconst 0, 1) := by decide +kernel
theorem d305_153 : decode prog_13_method_103_code 153 = .ok (.istore 7, 2) := by decide +kernel
theorem d305_155 : decode prog_13_method_103_code 155 = .ok (.iload 7, 2) := by decide +kernel
theorem d305_157 : decode prog_13_method_103_code 157 = .ok (.iload 6, 2) := by decide +kernel
theorem d305_159 : decode prog_13_method_103_code 159 = .ok (.if_icmp .ge 61, 3) := by decide +kernel
theorem d305_162 : decode prog_13_method_103_code 162 = .ok (.iload_n 3, 1) := by decide +kernel
theorem d305_163 : decode prog_13_method_103_code 163 = .ok (.iload_n 1, 1) := by decide +kernel
theorem d305_164 : decode prog_13_method_103_code 164 = .ok (.if_icmp .le 13, 3) := by decide +kernel
theorem d305_167 : decode prog_13_method_103_code 167 = .ok (.iload 6, 2) := by decide +kernel
theorem d305_169 : decode prog_13_method_103_code 169 = .ok (.iconst 1, 1) := by decide +kernel
theorem d305_170 : decode prog_13_method_103_code 170 = .ok (.isub, 1) := by decide +kernel
theorem d305_171 : decode prog_13_method_103_code 171 = .ok (.iload 7, 2) := by decide +kernel
theorem d305_173 : decode prog_13_method_103_code 173 = .ok (.isub, 1) := by decide +kernel
theorem d305_174 : decode prog_13_method_103_code 174 = .ok (.goto 5, 3) := by decide +kernel
theorem d305_177 : decode prog_13_method_103_code 177 = .ok (.iload 7, 2) := by decide +kernel
theorem d305_179 : decode prog_13_method_103_code 179 = .ok (.istore 8, 2) := by decide +kernel
theorem d305_181 : decode prog_13_method_103_code 181 = .ok (.iload 8, 2) := by decide +kernel
theorem d305_183 : decode prog_13_method_103_code 183 = .ok (.iload 5, 2) := by decide +kernel
theorem d305_185 : decode prog_13_method_103_code 185 = .ok (.iconst 1, 1) := by decide +kernel
theorem d305_186 : decode prog_13_method_103_code 186 = .ok (.iadd, 1) := by decide +kernel
theorem d305_187 : decode prog_13_method_103_code 187 = .ok (.idiv, 1) := by decide +kernel
theorem d305_188 : decode prog_13_method_103_code 188 = .ok (.bipush 10, 2) := by decide +kernel
theorem d305_190 : decode prog_13_method_103_code 190 = .ok (.imul, 1) := by decide +kernel
theorem d305_191 : decode prog_13_method_103_code 191 = .ok (.iload 8, 2) := by decide +kernel
theorem d305_193 : decode prog_13_method_103_code 193 = .ok (.iload 5, 2) := by decide +kernel
theorem d305_195 : decode prog_13_method_103_code 195 = .ok (.iconst 1, 1) := by decide +kernel
theorem d305_196 : decode prog_13_method_103_code 196 = .ok (.iadd, 1) := by decide +kernel
theorem d305_197 : decode prog_13_method_103_code 197 = .ok (.irem, 1) := by decide +kernel
theorem d305_198 : decode prog_13_method_103_code 198 = .ok (.iadd, 1) := by decide +kernel
theorem d305_199 : decode prog_13_method_103_code 199 = .ok (.istore 9, 2) := by decide +kernel
theorem d305_201 : decode prog_13_method_103_code 201 = .ok (.aload_n 0, 1) := by decide +kernel
theorem d305_202 : decode prog_13_method_103_code 202 = .ok (.iload_n 1, 1) := by decide +kernel
theorem d305_203 : decode prog_13_method_103_code 203 = .ok (.iload 9, 2) := by decide +kernel
theorem d305_205 : decode prog_13_method_103_code 205 = .ok (.iadd, 1) := by decide +kernel
theorem d305_206 : decode prog_13_method_103_code 206 = .ok (.iload_n 3, 1) := by decide +kernel
theorem d305_207 : decode prog_13_method_103_code 207 = .ok (.iload 9, 2) := by decide +kernel
theorem d305_209 : decode prog_13_method_103_code 209 = .ok (.iadd, 1) := by decide +kernel
theorem d305_210 : decode prog_13_method_103_code 210 = .ok (.iconst 0, 1) := by decide +kernel
theorem d305_211 : decode prog_13_method_103_code 211 = .ok (.invokevirtual 468, 3) := by decide +kernel
theorem k305_468_11 : xCa (xMo 305) 468 11 = some (1, 306, 3) := by decide +kernel
theorem n305_468 : xcn (xMo 305) 468 = some 3 := by decide +kernel
theorem d305_214 : decode prog_13_method_103_code 214 = .ok (.iinc 7 1, 3) := by decide +kernel
theorem d305_217 : decode prog_13_method_103_code 217 = .ok (.goto (-62), 3) := by decide +kernel
theorem d305_220 : decode prog_13_method_103_code 220 = .ok (.aload_n 0, 1) := by decide +kernel
theorem d305_221 : decode prog_13_method_103_code 221 = .ok (.invokevirtual 410, 3) := by decide +kernel
theorem k305_410_11 : xCa (xMo 305) 410 11 = some (1, 303, 0) := by decide +kernel
theorem n305_410 : xcn (xMo 305) 410 = some 0 := by decide +kernel
theorem d305_224 : decode prog_13_method_103_code 224 = .ok (.iload 6, 2) := by decide +kernel
theorem d305_226 : decode prog_13_method_103_code 226 = .ok (.ireturn, 1) := by decide +kernel
set_option maxRecDepth 100000 in
theorem q306 : xMc 306 = prog_13_method_100_code := rfl
theorem m306 : xMl 306 = 4 ∧ xMret 306 = none ∧ xMh 306 = [] := by decide +kernel
theorem e306 {X : xX} {d : Nat} {w : xH} {Q : xO → xH → Prop} (a : Nat) (x0 : Int32) (x1 : Int32) (x2 : Int32) : Cw X d 306 [.ref a, .int x0, .int x1, .int x2] w Q = Wx X d 306 0 [some (.ref a), some (.int x0), some (.int x1), some (.int x2)] [] w Q := by
  unfold Cw
  rw [m306.1]
  rfl
theorem d306_0 : decode prog_13_method_100_code 0 = .ok (.aload_n 0, 1) := by decide +kernel
theorem d306_1 : decode prog_13_method_100_code 1 = .ok (.iload_n 1, 1) := by decide +kernel
theorem d306_2 : decode prog_13_method_100_code 2 = .ok (.iload_n 3, 1) := by decide +kernel
theorem d306_3 : decode prog_13_method_100_code 3 = .ok (.invokevirtual 465, 3) := by decide +kernel
theorem k306_465_11 : xCa (xMo 306) 465 11 = some (1, 307, 2) := by decide +kernel
theorem n306_465 : xcn (xMo 306) 465 = some 2 := by decide +kernel
theorem d306_6 : decode prog_13_method_100_code 6 = .ok (.aload_n 0, 1) := by decide +kernel
theorem d306_7 : decode prog_13_method_100_code 7 = .ok (.aload_n 0, 1) := by decide +kernel
theorem d306_8 : decode prog_13_method_100_code 8 = .ok (.getfield 7, 3) := by decide +kernel
theorem f306_7 : xFd (xMo 306) 7 = some (11, 0) := by decide +kernel
theorem d306_11 : decode prog_13_method_100_code 11 = .ok (.iload_n 1, 1) := by decide +kernel
theorem d306_12 : decode prog_13_method_100_code 12 = .ok (.iaload, 1) := by decide +kernel
theorem d306_13 : decode prog_13_method_100_code 13 = .ok (.putfield 358, 3) := by decide +kernel
theorem f306_358 : xFd (xMo 306) 358 = some (11, 33) := by decide +kernel
theorem d306_16 : decode prog_13_method_100_code 16 = .ok (.aload_n 0, 1) := by decide +kernel
theorem d306_17 : decode prog_13_method_100_code 17 = .ok (.aload_n 0, 1) := by decide +kernel
theorem d306_18 : decode prog_13_method_100_code 18 = .ok (.getfield 7, 3) := by decide +kernel
theorem d306_21 : decode prog_13_method_100_code 21 = .ok (.sipush 200, 3) := by decide +kernel
theorem d306_24 : decode prog_13_method_100_code 24 = .ok (.iload_n 1, 1) := by decide +kernel
theorem d306_25 : decode prog_13_method_100_code 25 = .ok (.iadd, 1) := by decide +kernel
theorem d306_26 : decode prog_13_method_100_code 26 = .ok (.iaload, 1) := by decide +kernel
theorem d306_27 : decode prog_13_method_100_code 27 = .ok (.putfield 364, 3) := by decide +kernel
theorem f306_364 : xFd (xMo 306) 364 = some (11, 34) := by decide +kernel
theorem d306_30 : decode prog_13_method_100_code 30 = .ok (.aload_n 0, 1) := by decide +kernel
theorem d306_31 : decode prog_13_method_100_code 31 = .ok (.iload_n 2, 1) := by decide +kernel
theorem d306_32 : decode prog_13_method_100_code 32 = .ok (.invokevirtual 402, 3) := by decide +kernel
theorem k306_402_11 : xCa (xMo 306) 402 11 = some (1, 267, 1) := by decide +kernel
theorem n306_402 : xcn (xMo 306) 402 = some 1 := by decide +kernel
theorem d306_35 : decode prog_13_method_100_code 35 = .ok (.return_, 1) := by decide +kernel
set_option maxRecDepth 100000 in
theorem q307 : xMc 307 = prog_13_method_99_code := rfl
theorem m307 : xMl 307 = 8 ∧ xMret 307 = none ∧ xMh 307 = [] := by decide +kernel
theorem e307 {X : xX} {d : Nat} {w : xH} {Q : xO → xH → Prop} (a : Nat) (x0 : Int32) (x1 : Int32) : Cw X d 307 [.ref a, .int x0, .int x1] w Q = Wx X d 307 0 [some (.ref a), some (.int x0), some (.int x1), none, none, none, none, none] [] w Q := by
  unfold Cw
  rw [m307.1]
  rfl
theorem d307_0 : decode prog_13_method_99_code 0 = .ok (.aload_n 0, 1) := by decide +kernel
theorem d307_1 : decode prog_13_method_99_code 1 = .ok (.iconst 0, 1) := by decide +kernel
theorem d307_2 : decode prog_13_method_99_code 2 = .ok (.putfield 285, 3) := by decide +kernel
theorem f307_285 : xFd (xMo 307) 285 = some (11, 32) := by decide +kernel
theorem d307_5 : decode prog_13_method_99_code 5 = .ok (.aload_n 0, 1) := by decide +kernel
theorem d307_6 : decode prog_13_method_99_code 6 = .ok (.iconst 1, 1) := by decide +kernel
theorem d307_7 : decode prog_13_method_99_code 7 = .ok (.putfield 282, 3) := by decide +kernel
theorem f307_282 : xFd (xMo 307) 282 = some (11, 36) := by decide +kernel
theorem d307_10 : decode prog_13_method_99_code 10 = .ok (.iconst 0, 1) := by decide +kernel
theorem d307_11 : decode prog_13_method_99_code 11 = .ok (.istore_n 3, 1) := by decide +kernel
theorem d307_12 : decode prog_13_method_99_code 12 = .ok (.iload_n 3, 1) := by decide +kernel
theorem d307_13 : decode prog_13_method_99_code 13 = .ok (.aload_n 0, 1) := by decide +kernel
theorem d307_14 : decode prog_13_method_99_code 14 = .ok (.getfield 7, 3) := by decide +kernel
theorem f307_7 : xFd (xMo 307) 7 = some (11, 0) := by decide +kernel
theorem d307_17 : decode prog_13_method_99_code 17 = .ok (.sipush 400, 3) := by decide +kernel
theorem d307_20 : decode prog_13_method_99_code 20 = .ok (.iload_n 1, 1) := by decide +kernel
theorem d307_21 : decode prog_13_method_99_code 21 = .ok (.iadd, 1) := by decide +kernel
theorem d307_22 : decode prog_13_method_99_code 22 = .ok (.iaload, 1) := by decide +kernel
theorem d307_23 : decode prog_13_method_99_code 23 = .ok (.if_icmp .ge 154, 3) := by decide +kernel
theorem d307_26 : decode prog_13_method_99_code 26 = .ok (.aload_n 0, 1) := by decide +kernel
theorem d307_27 : decode prog_13_method_99_code 27 = .ok (.iload_n 1, 1) := by decide +kernel
theorem d307_28 : decode prog_13_method_99_code 28 = .ok (.iload_n 3, 1) := by decide +kernel
theorem d307_29 : decode prog_13_method_99_code 29 = .ok (.invokevirtual 111, 3) := by decide +kernel
theorem k307_111_11 : xCa (xMo 307) 111 11 = some (1, 222, 2) := by decide +kernel
theorem n307_111 : xcn (xMo 307) 111 = some 2 := by decide +kernel
theorem d307_32 : decode prog_13_method_99_code 32 = .ok (.istore 4, 2) := by decide +kernel
theorem d307_34 : decode prog_13_method_99_code 34 = .ok (.aload_n 0, 1) := by decide +kernel
theorem d307_35 : decode prog_13_method_99_code 35 = .ok (.iload_n 1, 1) := by decide +kernel
theorem d307_36 : decode prog_13_method_99_code 36 = .ok (.iload_n 3, 1) := by decide +kernel
theorem d307_37 : decode prog_13_method_99_code 37 = .ok (.invokevirtual 137, 3) := by decide +kernel
theorem k307_137_11 : xCa (xMo 307) 137 11 = some (1, 221, 2) := by decide +kernel
theorem n307_137 : xcn (xMo 307) 137 = some 2 := by decide +kernel
theorem d307_40 : decode prog_13_method_99_code 40 = .ok (.ifCond .eq 93, 3) := by decide +kernel
theorem d307_43 : decode prog_13_method_99_code 43 = .ok (.aload_n 0, 1) := by decide +kernel
theorem d307_44 : decode prog_13_method_99_code 44 = .ok (.iload 4, 2) := by decide +kernel
theorem d307_46 : decode prog_13_method_99_code 46 = .ok (.aload_n 0, 1) := by decide +kernel
theorem d307_47 : decode prog_13_method_99_code 47 = .ok (.iload_n 1, 1) := by decide +kernel
theorem d307_48 : decode prog_13_method_99_code 48 = .ok (.iload_n 3, 1) := by decide +kernel
theorem d307_49 : decode prog_13_method_99_code 49 = .ok (.iconst 2, 1) := by decide +kernel
theorem d307_50 : decode prog_13_method_99_code 50 = .ok (.iadd, 1) := by decide +kernel
theorem d307_51 : decode prog_13_method_99_code 51 = .ok (.invokevirtual 111, 3) := by decide +kernel
theorem d307_54 : decode prog_13_method_99_code 54 = .ok (.iload_n 2, 1) := by decide +kernel
theorem d307_55 : decode prog_13_method_99_code 55 = .ok (.invokevirtual 458, 3) := by decide +kernel
theorem k307_458_11 : xCa (xMo 307) 458 11 = some (1, 308, 3) := by decide +kernel
theorem n307_458 : xcn (xMo 307) 458 = some 3 := by decide +kernel
theorem d307_58 : decode prog_13_method_99_code 58 = .ok (.istore 5, 2) := by decide +kernel
theorem d307_60 : decode prog_13_method_99_code 60 = .ok (.aload_n 0, 1) := by decide +kernel
theorem d307_61 : decode prog_13_method_99_code 61 = .ok (.aload_n 0, 1) := by decide +kernel
theorem d307_62 : decode prog_13_method_99_code 62 = .ok (.iload_n 1, 1) := by decide +kernel
theorem d307_63 : decode prog_13_method_99_code 63 = .ok (.iload_n 3, 1) := by decide +kernel
theorem d307_64 : decode prog_13_method_99_code 64 = .ok (.iconst 2, 1) := by decide +kernel
theorem d307_65 : decode prog_13_method_99_code 65 = .ok (.iadd, 1) := by decide +kernel
theorem d307_66 : decode prog_13_method_99_code 66 = .ok (.invokevirtual 111, 3) := by decide +kernel
theorem d307_69 : decode prog_13_method_99_code 69 = .ok (.iload 4, 2) := by decide +kernel
theorem d307_71 : decode prog_13_method_99_code 71 = .ok (.iload_n 2, 1) := by decide +kernel
theorem d307_72 : decode prog_13_method_99_code 72 = .ok (.invokevirtual 458, 3) := by decide +kernel
theorem d307_75 : decode prog_13_method_99_code 75 = .ok (.istore 6, 2) := by decide +kernel
theorem d307_77 : decode prog_13_method_99_code 77 = .ok (.iload 5, 2) := by decide +kernel
theorem d307_79 : decode prog_13_method_99_code 79 = .ok (.ifCond .le 12, 3) := by decide +kernel
theorem d307_82 : decode prog_13_method_99_code 82 = .ok (.iload 6, 2) := by decide +kernel
theorem d307_84 : decode prog_13_method_99_code 84 = .ok (.ifCond .le 7, 3) := by decide +kernel
theorem d307_87 : decode prog_13_method_99_code 87 = .ok (.iconst 1, 1) := by decide +kernel
theorem d307_88 : decode prog_13_method_99_code 88 = .ok (.goto 4, 3) := by decide +kernel
theorem d307_91 : decode prog_13_method_99_code 91 = .ok (.iconst 0, 1) := by decide +kernel
theorem d307_92 : decode prog_13_method_99_code 92 = .ok (.istore 7, 2) := by decide +kernel
theorem d307_94 : decode prog_13_method_99_code 94 = .ok (.aload_n 0, 1) := by decide +kernel
theorem d307_95 : decode prog_13_method_99_code 95 = .ok (.iload 7, 2) := by decide +kernel
theorem d307_97 : decode prog_13_method_99_code 97 = .ok (.ifCond .eq 8, 3) := by decide +kernel
theorem d307_100 : decode prog_13_method_99_code 100 = .ok (.iload 5, 2) := by decide +kernel
theorem d307_102 : decode prog_13_method_99_code 102 = .ok (.goto 5, 3) := by decide +kernel
theorem d307_105 : decode prog_13_method_99_code 105 = .ok (.ldc 110, 2) := by decide +kernel
theorem d307_107 : decode prog_13_method_99_code 107 = .ok (.invokevirtual 298, 3) := by decide +kernel
theorem k307_298_11 : xCa (xMo 307) 298 11 = some (1, 242, 1) := by decide +kernel
theorem n307_298 : xcn (xMo 307) 298 = some 1 := by decide +kernel
theorem d307_110 : decode prog_13_method_99_code 110 = .ok (.iload 7, 2) := by decide +kernel
theorem d307_112 : decode prog_13_method_99_code 112 = .ok (.ifCond .eq 15, 3) := by decide +kernel
theorem d307_115 : decode prog_13_method_99_code 115 = .ok (.aload_n 0, 1) := by decide +kernel
theorem d307_116 : decode prog_13_method_99_code 116 = .ok (.bipush 58, 2) := by decide +kernel
theorem d307_118 : decode prog_13_method_99_code 118 = .ok (.invokevirtual 298, 3) := by decide +kernel
theorem d307_121 : decode prog_13_method_99_code 121 = .ok (.aload_n 0, 1) := by decide +kernel
theorem d307_122 : decode prog_13_method_99_code 122 = .ok (.iload 6, 2) := by decide +kernel
theorem d307_124 : decode prog_13_method_99_code 124 = .ok (.invokevirtual 298, 3) := by decide +kernel
theorem d307_127 : decode prog_13_method_99_code 127 = .ok (.iinc 3 3, 3) := by decide +kernel
theorem d307_130 : decode prog_13_method_99_code 130 = .ok (.goto 44, 3) := by decide +kernel
theorem d307_133 : decode prog_13_method_99_code 133 = .ok (.iload 4, 2) := by decide +kernel
theorem d307_135 : decode prog_13_method_99_code 135 = .ok (.invokestatic 115, 3) := by decide +kernel
theorem k307_115_99 : xCa (xMo 307) 115 99 = some (0, 223, 1) := by decide +kernel
theorem d307_138 : decode prog_13_method_99_code 138 = .ok (.ifCond .eq 13, 3) := by decide +kernel
theorem d307_141 : decode prog_13_method_99_code 141 = .ok (.aload_n 0, 1) := by decide +kernel
theorem d307_142 : decode prog_13_method_99_code 142 = .ok (.iload 4, 2) := by decide +kernel
theorem d307_144 : decode prog_13_method_99_code 144 = .ok (.iload_n 2, 1) := by decide +kernel
theorem d307_145 : decode prog_13_method_99_code 145 = .ok (.invokevirtual 462, 3) := by decide +kernel
theorem k307_462_11 : xCa (xMo 307) 462 11 = some (1, 315, 2) := by decide +kernel
theorem n307_462 : xcn (xMo 307) 462 = some 2 := by decide +kernel
theorem d307_148 : decode prog_13_method_99_code 148 = .ok (.goto 5, 3) := by decide +kernel
theorem d307_151 : decode prog_13_method_99_code 151 = .ok (.iload 4, 2) := by decide +kernel
theorem d307_153 : decode prog_13_method_99_code 153 = .ok (.istore 5, 2) := by decide +kernel
theorem d307_155 : decode prog_13_method_99_code 155 = .ok (.aload_n 0, 1) := by decide +kernel
theorem d307_156 : decode prog_13_method_99_code 156 = .ok (.iload 5, 2) := by decide +kernel
theorem d307_158 : decode prog_13_method_99_code 158 = .ok (.ifCond .le 8, 3) := by decide +kernel
theorem d307_161 : decode prog_13_method_99_code 161 = .ok (.iload 5, 2) := by decide +kernel
theorem d307_163 : decode prog_13_method_99_code 163 = .ok (.goto 5, 3) := by decide +kernel
theorem d307_166 : decode prog_13_method_99_code 166 = .ok (.ldc 110, 2) := by decide +kernel
theorem d307_168 : decode prog_13_method_99_code 168 = .ok (.invokevirtual 298, 3) := by decide +kernel
theorem d307_171 : decode prog_13_method_99_code 171 = .ok (.iinc 3 1, 3) := by decide +kernel
theorem d307_174 : decode prog_13_method_99_code 174 = .ok (.goto (-162), 3) := by decide +kernel
theorem d307_177 : decode prog_13_method_99_code 177 = .ok (.return_, 1) := by decide +kernel
set_option maxRecDepth 100000 in
theorem q308 : xMc 308 = prog_13_method_98_code := rfl
theorem m308 : xMl 308 = 4 ∧ xMret 308 = (some FieldType.int) ∧ xMh 308 = [] := by decide +kernel
theorem e308 {X : xX} {d : Nat} {w : xH} {Q : xO → xH → Prop} (a : Nat) (x0 : Int32) (x1 : Int32) (x2 : Int32) : Cw X d 308 [.ref a, .int x0, .int x1, .int x2] w Q = Wx X d 308 0 [some (.ref a), some (.int x0), some (.int x1), some (.int x2)] [] w Q := by
  unfold Cw
  rw [m308.1]
  rfl
theorem d308_0 : decode prog_13_method_98_code 0 = .ok (.iload_n 3, 1) := by decide +kernel
theorem d308_1 : decode prog_13_method_98_code 1 = .ok (.ifCond .ne 11, 3) := by decide +kernel
theorem d308_4 : decode prog_13_method_98_code 4 = .ok (.aload_n 0, 1) := by decide +kernel
theorem d308_5 : decode prog_13_method_98_code 5 = .ok (.iload_n 1, 1) := by decide +kernel
theorem d308_6 : decode prog_13_method_98_code 6 = .ok (.invokevirtual 440, 3) := by decide +kernel
theorem k308_440_11 : xCa (xMo 308) 440 11 = some (1, 309, 1) := by decide +kernel
theorem n308_440 : xcn (xMo 308) 440 = some 1 := by decide +kernel
theorem d308_9 : decode prog_13_method_98_code 9 = .ok (.goto 18, 3) := by decide +kernel
theorem d308_12 : decode prog_13_method_98_code 12 = .ok (.iload_n 3, 1) := by decide +kernel
theorem d308_13 : decode prog_13_method_98_code 13 = .ok (.iconst 1, 1) := by decide +kernel
theorem d308_14 : decode prog_13_method_98_code 14 = .ok (.if_icmp .ne 12, 3) := by decide +kernel
theorem d308_17 : decode prog_13_method_98_code 17 = .ok (.aload_n 0, 1) := by decide +kernel
theorem d308_18 : decode prog_13_method_98_code 18 = .ok (.iload_n 1, 1) := by decide +kernel
theorem d308_19 : decode prog_13_method_98_code 19 = .ok (.iload_n 2, 1) := by decide +kernel
theorem d308_20 : decode prog_13_method_98_code 20 = .ok (.invokevirtual 455, 3) := by decide +kernel
theorem k308_455_11 : xCa (xMo 308) 455 11 = some (1, 311, 2) := by decide +kernel
theorem n308_455 : xcn (xMo 308) 455 = some 2 := by decide +kernel
theorem d308_23 : decode prog_13_method_98_code 23 = .ok (.goto 4, 3) := by decide +kernel
theorem d308_26 : decode prog_13_method_98_code 26 = .ok (.iload_n 1, 1) := by decide +kernel
theorem d308_27 : decode prog_13_method_98_code 27 = .ok (.ireturn, 1) := by decide +kernel
set_option maxRecDepth 100000 in
theorem q309 : xMc 309 = prog_13_method_94_code := rfl
theorem m309 : xMl 309 = 6 ∧ xMret 309 = (some FieldType.int) ∧ xMh 309 = [] := by decide +kernel
theorem e309 {X : xX} {d : Nat} {w : xH} {Q : xO → xH → Prop} (a : Nat) (x0 : Int32) : Cw X d 309 [.ref a, .int x0] w Q = Wx X d 309 0 [some (.ref a), some (.int x0), none, none, none, none] [] w Q := by
  unfold Cw
  rw [m309.1]
  rfl
theorem d309_0 : decode prog_13_method_94_code 0 = .ok (.iload_n 1, 1) := by decide +kernel
theorem d309_1 : decode prog_13_method_94_code 1 = .ok (.ldc 109, 2) := by decide +kernel
theorem d309_3 : decode prog_13_method_94_code 3 = .ok (.isub, 1) := by decide +kernel
theorem d309_4 : decode prog_13_method_94_code 4 = .ok (.sipush 1000, 3) := by decide +kernel
theorem d309_7 : decode prog_13_method_94_code 7 = .ok (.idiv, 1) := by decide +kernel
theorem d309_8 : decode prog_13_method_94_code 8 = .ok (.istore_n 2, 1) := by decide +kernel
theorem d309_9 : decode prog_13_method_94_code 9 = .ok (.iload_n 1, 1) := by decide +kernel
theorem d309_10 : decode prog_13_method_94_code 10 = .ok (.invokestatic 140, 3) := by decide +kernel
theorem k309_140_99 : xCa (xMo 309) 140 99 = some (0, 224, 1) := by decide +kernel
theorem d309_13 : decode prog_13_method_94_code 13 = .ok (.bipush 10, 2) := by decide +kernel
theorem d309_15 : decode prog_13_method_94_code 15 = .ok (.idiv, 1) := by decide +kernel
theorem d309_16 : decode prog_13_method_94_code 16 = .ok (.iload_n 2, 1) := by decide +kernel
theorem d309_17 : decode prog_13_method_94_code 17 = .ok (.iconst 2, 1) := by decide +kernel
theorem d309_18 : decode prog_13_method_94_code 18 = .ok (.if_icmp .lt 7, 3) := by decide +kernel
theorem d309_21 : decode prog_13_method_94_code 21 = .ok (.iconst 0, 1) := by decide +kernel
theorem d309_22 : decode prog_13_method_94_code 22 = .ok (.goto 7, 3) := by decide +kernel
theorem d309_25 : decode prog_13_method_94_code 25 = .ok (.aload_n 0, 1) := by decide +kernel
theorem d309_26 : decode prog_13_method_94_code 26 = .ok (.getfield 416, 3) := by decide +kernel
theorem f309_416 : xFd (xMo 309) 416 = some (11, 46) := by decide +kernel
theorem d309_29 : decode prog_13_method_94_code 29 = .ok (.iadd, 1) := by decide +kernel
theorem d309_30 : decode prog_13_method_94_code 30 = .ok (.istore_n 3, 1) := by decide +kernel
theorem d309_31 : decode prog_13_method_94_code 31 = .ok (.iload_n 1, 1) := by decide +kernel
theorem d309_32 : decode prog_13_method_94_code 32 = .ok (.invokestatic 140, 3) := by decide +kernel
theorem d309_35 : decode prog_13_method_94_code 35 = .ok (.bipush 10, 2) := by decide +kernel
theorem d309_37 : decode prog_13_method_94_code 37 = .ok (.irem, 1) := by decide +kernel
theorem d309_38 : decode prog_13_method_94_code 38 = .ok (.iload_n 2, 1) := by decide +kernel
theorem d309_39 : decode prog_13_method_94_code 39 = .ok (.iconst 2, 1) := by decide +kernel
theorem d309_40 : decode prog_13_method_94_code 40 = .ok (.irem, 1) := by decide +kernel
theorem d309_41 : decode prog_13_method_94_code 41 = .ok (.iconst 1, 1) := by decide +kernel
theorem d309_42 : decode prog_13_method_94_code 42 = .ok (.if_icmp .ne 7, 3) := by decide +kernel
theorem d309_45 : decode prog_13_method_94_code 45 = .ok (.iconst 0, 1) := by decide +kernel
theorem d309_46 : decode prog_13_method_94_code 46 = .ok (.goto 7, 3) := by decide +kernel
theorem d309_49 : decode prog_13_method_94_code 49 = .ok (.aload_n 0, 1) := by decide +kernel
theorem d309_50 : decode prog_13_method_94_code 50 = .ok (.getfield 419, 3) := by decide +kernel
theorem f309_419 : xFd (xMo 309) 419 = some (11, 47) := by decide +kernel
theorem d309_53 : decode prog_13_method_94_code 53 = .ok (.iadd, 1) := by decide +kernel
theorem d309_54 : decode prog_13_method_94_code 54 = .ok (.istore 4, 2) := by decide +kernel
theorem d309_56 : decode prog_13_method_94_code 56 = .ok (.iload_n 3, 1) := by decide +kernel
theorem d309_57 : decode prog_13_method_94_code 57 = .ok (.iconst 0, 1) := by decide +kernel
theorem d309_58 : decode prog_13_method_94_code 58 = .ok (.bipush 19, 2) := by decide +kernel
theorem d309_60 : decode prog_13_method_94_code 60 = .ok (.invokestatic 91, 3) := by decide +kernel
theorem k309_91_99 : xCa (xMo 309) 91 99 = some (0, 232, 3) := by decide +kernel
theorem d309_63 : decode prog_13_method_94_code 63 = .ok (.ifCond .eq 18, 3) := by decide +kernel
theorem d309_66 : decode prog_13_method_94_code 66 = .ok (.iload 4, 2) := by decide +kernel
theorem d309_68 : decode prog_13_method_94_code 68 = .ok (.iconst 0, 1) := by decide +kernel
theorem d309_69 : decode prog_13_method_94_code 69 = .ok (.bipush 9, 2) := by decide +kernel
theorem d309_71 : decode prog_13_method_94_code 71 = .ok (.invokestatic 91, 3) := by decide +kernel
theorem d309_74 : decode prog_13_method_94_code 74 = .ok (.ifCond .eq 7, 3) := by decide +kernel
theorem d309_77 : decode prog_13_method_94_code 77 = .ok (.iconst 1, 1) := by decide +kernel
theorem d309_78 : decode prog_13_method_94_code 78 = .ok (.goto 4, 3) := by decide +kernel
theorem d309_81 : decode prog_13_method_94_code 81 = .ok (.iconst 0, 1) := by decide +kernel
theorem d309_82 : decode prog_13_method_94_code 82 = .ok (.istore 5, 2) := by decide +kernel
theorem d309_84 : decode prog_13_method_94_code 84 = .ok (.iload_n 1, 1) := by decide +kernel
theorem d309_85 : decode prog_13_method_94_code 85 = .ok (.iload 5, 2) := by decide +kernel
theorem d309_87 : decode prog_13_method_94_code 87 = .ok (.ifCond .eq 13, 3) := by decide +kernel
theorem d309_90 : decode prog_13_method_94_code 90 = .ok (.bipush 10, 2) := by decide +kernel
theorem d309_92 : decode prog_13_method_94_code 92 = .ok (.iload_n 3, 1) := by decide +kernel
theorem d309_93 : decode prog_13_method_94_code 93 = .ok (.imul, 1) := by decide +kernel
theorem d309_94 : decode prog_13_method_94_code 94 = .ok (.iload 4, 2) := by decide +kernel
theorem d309_96 : decode prog_13_method_94_code 96 = .ok (.iadd, 1) := by decide +kernel
theorem d309_97 : decode prog_13_method_94_code 97 = .ok (.goto 4, 3) := by decide +kernel
theorem d309_100 : decode prog_13_method_94_code 100 = .ok (.iconst (-1), 1) := by decide +kernel
theorem d309_101 : decode prog_13_method_94_code 101 = .ok (.invokestatic 422, 3) := by decide +kernel
theorem k309_422_99 : xCa (xMo 309) 422 99 = some (0, 310, 2) := by decide +kernel
theorem d309_104 : decode prog_13_method_94_code 104 = .ok (.ireturn, 1) := by decide +kernel
set_option maxRecDepth 100000 in
theorem q310 : xMc 310 = prog_13_method_93_code := rfl
theorem m310 : xMl 310 = 2 ∧ xMret 310 = (some FieldType.int) ∧ xMh 310 = [] := by decide +kernel
theorem e310 {X : xX} {d : Nat} {w : xH} {Q : xO → xH → Prop} (x0 : Int32) (x1 : Int32) : Cw X d 310 [.int x0, .int x1] w Q = Wx X d 310 0 [some (.int x0), some (.int x1)] [] w Q := by
  unfold Cw
  rw [m310.1]
  rfl
theorem d310_0 : decode prog_13_method_93_code 0 = .ok (.iload_n 1, 1) := by decide +kernel
theorem d310_1 : decode prog_13_method_93_code 1 = .ok (.ifCond .ge 7, 3) := by decide +kernel
theorem d310_4 : decode prog_13_method_93_code 4 = .ok (.iconst 0, 1) := by decide +kernel
theorem d310_5 : decode prog_13_method_93_code 5 = .ok (.goto 11, 3) := by decide +kernel
theorem d310_8 : decode prog_13_method_93_code 8 = .ok (.iload_n 0, 1) := by decide +kernel
theorem d310_9 : decode prog_13_method_93_code 9 = .ok (.iload_n 0, 1) := by decide +kernel
theorem d310_10 : decode prog_13_method_93_code 10 = .ok (.invokestatic 140, 3) := by decide +kernel
theorem k310_140_99 : xCa (xMo 310) 140 99 = some (0, 224, 1) := by decide +kernel
theorem d310_13 : decode prog_13_method_93_code 13 = .ok (.isub, 1) := by decide +kernel
theorem d310_14 : decode prog_13_method_93_code 14 = .ok (.iload_n 1, 1) := by decide +kernel
theorem d310_15 : decode prog_13_method_93_code 15 = .ok (.iadd, 1) := by decide +kernel
theorem d310_16 : decode prog_13_method_93_code 16 = .ok (.ireturn, 1) := by decide +kernel
set_option maxRecDepth 100000 in
theorem q311 : xMc 311 = prog_13_method_96_code := rfl
theorem m311 : xMl 311 = 6 ∧ xMret 311 = (some FieldType.int) ∧ xMh 311 = [] := by decide +kernel
theorem e311 {X : xX} {d : Nat} {w : xH} {Q : xO → xH → Prop} (a : Nat) (x0 : Int32) (x1 : Int32) : Cw X d 311 [.ref a, .int x0, .int x1] w Q = Wx X d 311 0 [some (.ref a), some (.int x0), some (.int x1), none, none, none] [] w Q := by
  unfold Cw
  rw [m311.1]
  rfl
theorem d311_0 : decode prog_13_method_96_code 0 = .ok (.aload_n 0, 1) := by decide +kernel
theorem d311_1 : decode prog_13_method_96_code 1 = .ok (.iload_n 1, 1) := by decide +kernel
theorem d311_2 : decode prog_13_method_96_code 2 = .ok (.invokestatic 140, 3) := by decide +kernel
theorem k311_140_99 : xCa (xMo 311) 140 99 = some (0, 224, 1) := by decide +kernel
theorem d311_5 : decode prog_13_method_96_code 5 = .ok (.invokevirtual 425, 3) := by decide +kernel
theorem k311_425_11 : xCa (xMo 311) 425 11 = some (1, 312, 1) := by decide +kernel
theorem n311_425 : xcn (xMo 311) 425 = some 1 := by decide +kernel
theorem d311_8 : decode prog_13_method_96_code 8 = .ok (.istore_n 3, 1) := by decide +kernel
theorem d311_9 : decode prog_13_method_96_code 9 = .ok (.aload_n 0, 1) := by decide +kernel
theorem d311_10 : decode prog_13_method_96_code 10 = .ok (.iload_n 2, 1) := by decide +kernel
theorem d311_11 : decode prog_13_method_96_code 11 = .ok (.invokestatic 140, 3) := by decide +kernel
theorem d311_14 : decode prog_13_method_96_code 14 = .ok (.invokevirtual 425, 3) := by decide +kernel
theorem d311_17 : decode prog_13_method_96_code 17 = .ok (.istore 4, 2) := by decide +kernel
theorem d311_19 : decode prog_13_method_96_code 19 = .ok (.iload_n 3, 1) := by decide +kernel
theorem d311_20 : decode prog_13_method_96_code 20 = .ok (.istore 5, 2) := by decide +kernel
theorem d311_22 : decode prog_13_method_96_code 22 = .ok (.aload_n 0, 1) := by decide +kernel
theorem d311_23 : decode prog_13_method_96_code 23 = .ok (.getfield 428, 3) := by decide +kernel
theorem f311_428 : xFd (xMo 311) 428 = some (11, 49) := by decide +kernel
theorem d311_26 : decode prog_13_method_96_code 26 = .ok (.ifCond .eq 31, 3) := by decide +kernel
theorem d311_29 : decode prog_13_method_96_code 29 = .ok (.iload_n 3, 1) := by decide +kernel
theorem d311_30 : decode prog_13_method_96_code 30 = .ok (.aload_n 0, 1) := by decide +kernel
theorem d311_31 : decode prog_13_method_96_code 31 = .ok (.getfield 431, 3) := by decide +kernel
theorem f311_431 : xFd (xMo 311) 431 = some (11, 50) := by decide +kernel
theorem d311_34 : decode prog_13_method_96_code 34 = .ok (.if_icmp .lt 17, 3) := by decide +kernel
theorem d311_37 : decode prog_13_method_96_code 37 = .ok (.iload_n 3, 1) := by decide +kernel
theorem d311_38 : decode prog_13_method_96_code 38 = .ok (.aload_n 0, 1) := by decide +kernel
theorem d311_39 : decode prog_13_method_96_code 39 = .ok (.invokevirtual 434, 3) := by decide +kernel
theorem k311_434_11 : xCa (xMo 311) 434 11 = some (1, 313, 0) := by decide +kernel
theorem n311_434 : xcn (xMo 311) 434 = some 0 := by decide +kernel
theorem d311_42 : decode prog_13_method_96_code 42 = .ok (.if_icmp .ge 9, 3) := by decide +kernel
theorem d311_45 : decode prog_13_method_96_code 45 = .ok (.iload_n 3, 1) := by decide +kernel
theorem d311_46 : decode prog_13_method_96_code 46 = .ok (.iconst 1, 1) := by decide +kernel
theorem d311_47 : decode prog_13_method_96_code 47 = .ok (.iadd, 1) := by decide +kernel
theorem d311_48 : decode prog_13_method_96_code 48 = .ok (.goto 4, 3) := by decide +kernel
theorem d311_51 : decode prog_13_method_96_code 51 = .ok (.iload_n 3, 1) := by decide +kernel
theorem d311_52 : decode prog_13_method_96_code 52 = .ok (.istore 5, 2) := by decide +kernel
theorem d311_54 : decode prog_13_method_96_code 54 = .ok (.goto 64, 3) := by decide +kernel
theorem d311_57 : decode prog_13_method_96_code 57 = .ok (.iload_n 3, 1) := by decide +kernel
theorem d311_58 : decode prog_13_method_96_code 58 = .ok (.aload_n 0, 1) := by decide +kernel
theorem d311_59 : decode prog_13_method_96_code 59 = .ok (.getfield 431, 3) := by decide +kernel
theorem d311_62 : decode prog_13_method_96_code 62 = .ok (.if_icmp .ne 43, 3) := by decide +kernel
theorem d311_65 : decode prog_13_method_96_code 65 = .ok (.iload 4, 2) := by decide +kernel
theorem d311_67 : decode prog_13_method_96_code 67 = .ok (.aload_n 0, 1) := by decide +kernel
theorem d311_68 : decode prog_13_method_96_code 68 = .ok (.getfield 431, 3) := by decide +kernel
theorem d311_71 : decode prog_13_method_96_code 71 = .ok (.if_icmp .ne 7, 3) := by decide +kernel
theorem d311_74 : decode prog_13_method_96_code 74 = .ok (.iconst (-1), 1) := by decide +kernel
theorem d311_75 : decode prog_13_method_96_code 75 = .ok (.goto 25, 3) := by decide +kernel
theorem d311_78 : decode prog_13_method_96_code 78 = .ok (.iload 4, 2) := by decide +kernel
theorem d311_80 : decode prog_13_method_96_code 80 = .ok (.aload_n 0, 1) := by decide +kernel
theorem d311_81 : decode prog_13_method_96_code 81 = .ok (.getfield 431, 3) := by decide +kernel
theorem d311_84 : decode prog_13_method_96_code 84 = .ok (.if_icmp .le 10, 3) := by decide +kernel
theorem d311_87 : decode prog_13_method_96_code 87 = .ok (.aload_n 0, 1) := by decide +kernel
theorem d311_88 : decode prog_13_method_96_code 88 = .ok (.getfield 431, 3) := by decide +kernel
theorem d311_91 : decode prog_13_method_96_code 91 = .ok (.goto 9, 3) := by decide +kernel
theorem d311_94 : decode prog_13_method_96_code 94 = .ok (.aload_n 0, 1) := by decide +kernel
theorem d311_95 : decode prog_13_method_96_code 95 = .ok (.getfield 431, 3) := by decide +kernel
theorem d311_98 : decode prog_13_method_96_code 98 = .ok (.iconst 1, 1) := by decide +kernel
theorem d311_99 : decode prog_13_method_96_code 99 = .ok (.isub, 1) := by decide +kernel
theorem d311_100 : decode prog_13_method_96_code 100 = .ok (.istore 5, 2) := by decide +kernel
theorem d311_102 : decode prog_13_method_96_code 102 = .ok (.goto 16, 3) := by decide +kernel
theorem d311_105 : decode prog_13_method_96_code 105 = .ok (.iload_n 3, 1) := by decide +kernel
theorem d311_106 : decode prog_13_method_96_code 106 = .ok (.aload_n 0, 1) := by decide +kernel
theorem d311_107 : decode prog_13_method_96_code 107 = .ok (.getfield 431, 3) := by decide +kernel
theorem d311_110 : decode prog_13_method_96_code 110 = .ok (.if_icmp .le 8, 3) := by decide +kernel
theorem d311_113 : decode prog_13_method_96_code 113 = .ok (.iload_n 3, 1) := by decide +kernel
theorem d311_114 : decode prog_13_method_96_code 114 = .ok (.iconst 1, 1) := by decide +kernel
theorem d311_115 : decode prog_13_method_96_code 115 = .ok (.isub, 1) := by decide +kernel
theorem d311_116 : decode prog_13_method_96_code 116 = .ok (.istore 5, 2) := by decide +kernel
theorem d311_118 : decode prog_13_method_96_code 118 = .ok (.iload_n 1, 1) := by decide +kernel
theorem d311_119 : decode prog_13_method_96_code 119 = .ok (.iload 5, 2) := by decide +kernel
theorem d311_121 : decode prog_13_method_96_code 121 = .ok (.ifCond .ge 7, 3) := by decide +kernel
theorem d311_124 : decode prog_13_method_96_code 124 = .ok (.iconst (-1), 1) := by decide +kernel
theorem d311_125 : decode prog_13_method_96_code 125 = .ok (.goto 13, 3) := by decide +kernel
theorem d311_128 : decode prog_13_method_96_code 128 = .ok (.aload_n 0, 1) := by decide +kernel
theorem d311_129 : decode prog_13_method_96_code 129 = .ok (.iload_n 1, 1) := by decide +kernel
theorem d311_130 : decode prog_13_method_96_code 130 = .ok (.invokestatic 140, 3) := by decide +kernel
theorem d311_133 : decode prog_13_method_96_code 133 = .ok (.iload 5, 2) := by decide +kernel
theorem d311_135 : decode prog_13_method_96_code 135 = .ok (.invokevirtual 437, 3) := by decide +kernel
theorem k311_437_11 : xCa (xMo 311) 437 11 = some (1, 314, 2) := by decide +kernel
theorem n311_437 : xcn (xMo 311) 437 = some 2 := by decide +kernel
theorem d311_138 : decode prog_13_method_96_code 138 = .ok (.invokestatic 422, 3) := by decide +kernel
theorem k311_422_99 : xCa (xMo 311) 422 99 = some (0, 310, 2) := by decide +kernel
theorem d311_141 : decode prog_13_method_96_code 141 = .ok (.ireturn, 1) := by decide +kernel
set_option maxRecDepth 100000 in
theorem q312 : xMc 312 = prog_13_method_91_code := rfl
theorem m312 : xMl 312 = 2 ∧ xMret 312 = (some FieldType.int) ∧ xMh 312 = [] := by decide +kernel
theorem e312 {X : xX} {d : Nat} {w : xH} {Q : xO → xH → Prop} (a : Nat) (x0 : Int32) : Cw X d 312 [.ref a, .int x0] w Q = Wx X d 312 0 [some (.ref a), some (.int x0)] [] w Q := by
  unfold Cw
  rw [m312.1]
  rfl
theorem d312_0 : decode prog_13_method_91_code 0 = .ok (.aload_n 0, 1) := by decide +kernel
theorem d312_1 : decode prog_13_method_91_code 1 = .ok (.getfield 413, 3) := by decide +kernel
theorem f312_413 : xFd (xMo 312) 413 = some (11, 48) := by decide +kernel
theorem d312_4 : decode prog_13_method_91_code 4 = .ok (.ifCond .eq 10, 3) := by decide +kernel
theorem d312_7 : decode prog_13_method_91_code 7 = .ok (.iload_n 1, 1) := by decide +kernel
theorem d312_8 : decode prog_13_method_91_code 8 = .ok (.bipush 10, 2) := by decide +kernel
theorem d312_10 : decode prog_13_method_91_code 10 = .ok (.idiv, 1) := by decide +kernel
theorem d312_11 : decode prog_13_method_91_code 11 = .ok (.goto 7, 3) := by decide +kernel
theorem d312_14 : decode prog_13_method_91_code 14 = .ok (.iload_n 1, 1) := by decide +kernel
theorem d312_15 : decode prog_13_method_91_code 15 = .ok (.bipush 10, 2) := by decide +kernel
theorem d312_17 : decode prog_13_method_91_code 17 = .ok (.irem, 1) := by decide +kernel
theorem d312_18 : decode prog_13_method_91_code 18 = .ok (.ireturn, 1) := by decide +kernel
set_option maxRecDepth 100000 in
theorem q313 : xMc 313 = prog_13_method_90_code := rfl
theorem m313 : xMl 313 = 1 ∧ xMret 313 = (some FieldType.int) ∧ xMh 313 = [] := by decide +kernel
theorem e313 {X : xX} {d : Nat} {w : xH} {Q : xO → xH → Prop} (a : Nat) : Cw X d 313 [.ref a] w Q = Wx X d 313 0 [some (.ref a)] [] w Q := by
  unfold Cw
  rw [m313.1]
  rfl
theorem d313_0 : decode prog_13_method_90_code 0 = .ok (.aload_n 0, 1) := by decide +kernel
theorem d313_1 : decode prog_13_method_90_code 1 = .ok (.getfield 413, 3) := by decide +kernel
theorem f313_413 : xFd (xMo 313) 413 = some (11, 48) := by decide +kernel
theorem d313_4 : decode prog_13_method_90_code 4 = .ok (.ifCond .eq 8, 3) := by decide +kernel
theorem d313_7 : decode prog_13_method_90_code 7 = .ok (.bipush 19, 2) := by decide +kernel
theorem d313_9 : decode prog_13_method_90_code 9 = .ok (.goto 5, 3) := by decide +kernel
theorem d313_12 : decode prog_13_method_90_code 12 = .ok (.bipush 9, 2) := by decide +kernel
theorem d313_14 : decode prog_13_method_90_code 14 = .ok (.ireturn, 1) := by decide +kernel
set_option maxRecDepth 100000 in
theorem q314 : xMc 314 = prog_13_method_92_code := rfl
theorem m314 : xMl 314 = 3 ∧ xMret 314 = (some FieldType.int) ∧ xMh 314 = [] := by decide +kernel
theorem e314 {X : xX} {d : Nat} {w : xH} {Q : xO → xH → Prop} (a : Nat) (x0 : Int32) (x1 : Int32) : Cw X d 314 [.ref a, .int x0, .int x1] w Q = Wx X d 314 0 [some (.ref a), some (.int x0), some (.int x1)] [] w Q := by
  unfold Cw
  rw [m314.1]
  rfl
theorem d314_0 : decode prog_13_method_92_code 0 = .ok (.aload_n 0, 1) := by decide +kernel
theorem d314_1 : decode prog_13_method_92_code 1 = .ok (.getfield 413, 3) := by decide +kernel
theorem f314_413 : xFd (xMo 314) 413 = some (11, 48) := by decide +kernel
theorem d314_4 : decode prog_13_method_92_code 4 = .ok (.ifCond .eq 15, 3) := by decide +kernel
theorem d314_7 : decode prog_13_method_92_code 7 = .ok (.bipush 10, 2) := by decide +kernel
theorem d314_9 : decode prog_13_method_92_code 9 = .ok (.iload_n 2, 1) := by decide +kernel
theorem d314_10 : decode prog_13_method_92_code 10 = .ok (.imul, 1) := by decide +kernel
theorem d314_11 : decode prog_13_method_92_code 11 = .ok (.iload_n 1, 1) := by decide +kernel
theorem d314_12 : decode prog_13_method_92_code 12 = .ok (.bipush 10, 2) := by decide +kernel
theorem d314_14 : decode prog_13_method_92_code 14 = .ok (.irem, 1) := by decide +kernel
theorem d314_15 : decode prog_13_method_92_code 15 = .ok (.iadd, 1) := by decide +kernel
theorem d314_16 : decode prog_13_method_92_code 16 = .ok (.goto 12, 3) := by decide +kernel
theorem d314_19 : decode prog_13_method_92_code 19 = .ok (.iload_n 1, 1) := by decide +kernel
theorem d314_20 : decode prog_13_method_92_code 20 = .ok (.bipush 10, 2) := by decide +kernel
theorem d314_22 : decode prog_13_method_92_code 22 = .ok (.idiv, 1) := by decide +kernel
theorem d314_23 : decode prog_13_method_92_code 23 = .ok (.bipush 10, 2) := by decide +kernel
theorem d314_25 : decode prog_13_method_92_code 25 = .ok (.imul, 1) := by decide +kernel
theorem d314_26 : decode prog_13_method_92_code 26 = .ok (.iload_n 2, 1) := by decide +kernel
theorem d314_27 : decode prog_13_method_92_code 27 = .ok (.iadd, 1) := by decide +kernel
theorem d314_28 : decode prog_13_method_92_code 28 = .ok (.ireturn, 1) := by decide +kernel
set_option maxRecDepth 100000 in
theorem q315 : xMc 315 = prog_13_method_97_code := rfl
theorem m315 : xMl 315 = 4 ∧ xMret 315 = (some FieldType.int) ∧ xMh 315 = [] := by decide +kernel
theorem e315 {X : xX} {d : Nat} {w : xH} {Q : xO → xH → Prop} (a : Nat) (x0 : Int32) (x1 : Int32) : Cw X d 315 [.ref a, .int x0, .int x1] w Q = Wx X d 315 0 [some (.ref a), some (.int x0), some (.int x1), none] [] w Q := by
  unfold Cw
  rw [m315.1]
  rfl
theorem d315_0 : decode prog_13_method_97_code 0 = .ok (.iload_n 2, 1) := by decide +kernel
theorem d315_1 : decode prog_13_method_97_code 1 = .ok (.ifCond .ne 9, 3) := by decide +kernel
theorem d315_4 : decode prog_13_method_97_code 4 = .ok (.aload_n 0, 1) := by decide +kernel
theorem d315_5 : decode prog_13_method_97_code 5 = .ok (.iload_n 1, 1) := by decide +kernel
theorem d315_6 : decode prog_13_method_97_code 6 = .ok (.invokevirtual 440, 3) := by decide +kernel
theorem k315_440_11 : xCa (xMo 315) 440 11 = some (1, 309, 1) := by decide +kernel
theorem n315_440 : xcn (xMo 315) 440 = some 1 := by decide +kernel
theorem d315_9 : decode prog_13_method_97_code 9 = .ok (.ireturn, 1) := by decide +kernel
theorem d315_10 : decode prog_13_method_97_code 10 = .ok (.iload_n 2, 1) := by decide +kernel
theorem d315_11 : decode prog_13_method_97_code 11 = .ok (.iconst 1, 1) := by decide +kernel
theorem d315_12 : decode prog_13_method_97_code 12 = .ok (.if_icmp .ne 9, 3) := by decide +kernel
theorem d315_15 : decode prog_13_method_97_code 15 = .ok (.aload_n 0, 1) := by decide +kernel
theorem d315_16 : decode prog_13_method_97_code 16 = .ok (.iload_n 1, 1) := by decide +kernel
theorem d315_17 : decode prog_13_method_97_code 17 = .ok (.invokevirtual 443, 3) := by decide +kernel
theorem k315_443_11 : xCa (xMo 315) 443 11 = some (1, 316, 1) := by decide +kernel
theorem n315_443 : xcn (xMo 315) 443 = some 1 := by decide +kernel
theorem d315_20 : decode prog_13_method_97_code 20 = .ok (.ireturn, 1) := by decide +kernel
theorem d315_21 : decode prog_13_method_97_code 21 = .ok (.iload_n 1, 1) := by decide +kernel
theorem d315_22 : decode prog_13_method_97_code 22 = .ok (.invokestatic 140, 3) := by decide +kernel
theorem k315_140_99 : xCa (xMo 315) 140 99 = some (0, 224, 1) := by decide +kernel
theorem d315_25 : decode prog_13_method_97_code 25 = .ok (.aload_n 0, 1) := by decide +kernel
theorem d315_26 : decode prog_13_method_97_code 26 = .ok (.getfield 446, 3) := by decide +kernel
theorem f315_446 : xFd (xMo 315) 446 = some (11, 51) := by decide +kernel
theorem d315_29 : decode prog_13_method_97_code 29 = .ok (.if_icmp .eq 14, 3) := by decide +kernel
theorem d315_32 : decode prog_13_method_97_code 32 = .ok (.iload_n 1, 1) := by decide +kernel
theorem d315_33 : decode prog_13_method_97_code 33 = .ok (.invokestatic 140, 3) := by decide +kernel
theorem d315_36 : decode prog_13_method_97_code 36 = .ok (.aload_n 0, 1) := by decide +kernel
theorem d315_37 : decode prog_13_method_97_code 37 = .ok (.getfield 449, 3) := by decide +kernel
theorem f315_449 : xFd (xMo 315) 449 = some (11, 52) := by decide +kernel
theorem d315_40 : decode prog_13_method_97_code 40 = .ok (.if_icmp .ne 7, 3) := by decide +kernel
theorem d315_43 : decode prog_13_method_97_code 43 = .ok (.iconst 1, 1) := by decide +kernel
theorem d315_44 : decode prog_13_method_97_code 44 = .ok (.goto 4, 3) := by decide +kernel
theorem d315_47 : decode prog_13_method_97_code 47 = .ok (.iconst 0, 1) := by decide +kernel
theorem d315_48 : decode prog_13_method_97_code 48 = .ok (.istore_n 3, 1) := by decide +kernel
theorem d315_49 : decode prog_13_method_97_code 49 = .ok (.aload_n 0, 1) := by decide +kernel
theorem d315_50 : decode prog_13_method_97_code 50 = .ok (.dup, 1) := by decide +kernel
theorem d315_51 : decode prog_13_method_97_code 51 = .ok (.getfield 452, 3) := by decide +kernel
theorem f315_452 : xFd (xMo 315) 452 = some (11, 53) := by decide +kernel
theorem d315_54 : decode prog_13_method_97_code 54 = .ok (.iload_n 3, 1) := by decide +kernel
theorem d315_55 : decode prog_13_method_97_code 55 = .ok (.ifCond .eq 7, 3) := by decide +kernel
theorem d315_58 : decode prog_13_method_97_code 58 = .ok (.iconst 1, 1) := by decide +kernel
theorem d315_59 : decode prog_13_method_97_code 59 = .ok (.goto 4, 3) := by decide +kernel
theorem d315_62 : decode prog_13_method_97_code 62 = .ok (.iconst 0, 1) := by decide +kernel
theorem d315_63 : decode prog_13_method_97_code 63 = .ok (.iadd, 1) := by decide +kernel
theorem d315_64 : decode prog_13_method_97_code 64 = .ok (.putfield 452, 3) := by decide +kernel
theorem d315_67 : decode prog_13_method_97_code 67 = .ok (.iload_n 3, 1) := by decide +kernel
theorem d315_68 : decode prog_13_method_97_code 68 = .ok (.ifCond .ne 7, 3) := by decide +kernel
theorem d315_71 : decode prog_13_method_97_code 71 = .ok (.iload_n 1, 1) := by decide +kernel
theorem d315_72 : decode prog_13_method_97_code 72 = .ok (.goto 26, 3) := by decide +kernel
theorem d315_75 : decode prog_13_method_97_code 75 = .ok (.iload_n 1, 1) := by decide +kernel
theorem d315_76 : decode prog_13_method_97_code 76 = .ok (.iload_n 1, 1) := by decide +kernel
theorem d315_77 : decode prog_13_method_97_code 77 = .ok (.invokestatic 140, 3) := by decide +kernel
theorem d315_80 : decode prog_13_method_97_code 80 = .ok (.aload_n 0, 1) := by decide +kernel
theorem d315_81 : decode prog_13_method_97_code 81 = .ok (.getfield 446, 3) := by decide +kernel
theorem d315_84 : decode prog_13_method_97_code 84 = .ok (.if_icmp .ne 10, 3) := by decide +kernel
theorem d315_87 : decode prog_13_method_97_code 87 = .ok (.aload_n 0, 1) := by decide +kernel
theorem d315_88 : decode prog_13_method_97_code 88 = .ok (.getfield 449, 3) := by decide +kernel
theorem d315_91 : decode prog_13_method_97_code 91 = .ok (.goto 4, 3) := by decide +kernel
theorem d315_94 : decode prog_13_method_97_code 94 = .ok (.iconst (-1), 1) := by decide +kernel
theorem d315_95 : decode prog_13_method_97_code 95 = .ok (.invokestatic 422, 3) := by decide +kernel
theorem k315_422_99 : xCa (xMo 315) 422 99 = some (0, 310, 2) := by decide +kernel
theorem d315_98 : decode prog_13_method_97_code 98 = .ok (.ireturn, 1) := by decide +kernel
set_option maxRecDepth 100000 in
theorem q316 : xMc 316 = prog_13_method_95_code := rfl
theorem m316 : xMl 316 = 4 ∧ xMret 316 = (some FieldType.int) ∧ xMh 316 = [] := by decide +kernel
theorem e316 {X : xX} {d : Nat} {w : xH} {Q : xO → xH → Prop} (a : Nat) (x0 : Int32) : Cw X d 316 [.ref a, .int x0] w Q = Wx X d 316 0 [some (.ref a), some (.int x0), none, none] [] w Q := by
  unfold Cw
  rw [m316.1]
  rfl
theorem d316_0 : decode prog_13_method_95_code 0 = .ok (.aload_n 0, 1) := by decide +kernel
theorem d316_1 : decode prog_13_method_95_code 1 = .ok (.iload_n 1, 1) := by decide +kernel
theorem d316_2 : decode prog_13_method_95_code 2 = .ok (.invokestatic 140, 3) := by decide +kernel
theorem k316_140_99 : xCa (xMo 316) 140 99 = some (0, 224, 1) := by decide +kernel
theorem d316_5 : decode prog_13_method_95_code 5 = .ok (.invokevirtual 425, 3) := by decide +kernel
theorem k316_425_11 : xCa (xMo 316) 425 11 = some (1, 312, 1) := by decide +kernel
theorem n316_425 : xcn (xMo 316) 425 = some 1 := by decide +kernel
theorem d316_8 : decode prog_13_method_95_code 8 = .ok (.istore_n 2, 1) := by decide +kernel
theorem d316_9 : decode prog_13_method_95_code 9 = .ok (.aload_n 0, 1) := by decide +kernel
theorem d316_10 : decode prog_13_method_95_code 10 = .ok (.getfield 428, 3) := by decide +kernel
theorem f316_428 : xFd (xMo 316) 428 = some (11, 49) := by decide +kernel
theorem d316_13 : decode prog_13_method_95_code 13 = .ok (.ifCond .eq 21, 3) := by decide +kernel
theorem d316_16 : decode prog_13_method_95_code 16 = .ok (.iload_n 2, 1) := by decide +kernel
theorem d316_17 : decode prog_13_method_95_code 17 = .ok (.aload_n 0, 1) := by decide +kernel
theorem d316_18 : decode prog_13_method_95_code 18 = .ok (.getfield 431, 3) := by decide +kernel
theorem f316_431 : xFd (xMo 316) 431 = some (11, 50) := by decide +kernel
theorem d316_21 : decode prog_13_method_95_code 21 = .ok (.if_icmp .lt 9, 3) := by decide +kernel
theorem d316_24 : decode prog_13_method_95_code 24 = .ok (.iload_n 2, 1) := by decide +kernel
theorem d316_25 : decode prog_13_method_95_code 25 = .ok (.iconst 1, 1) := by decide +kernel
theorem d316_26 : decode prog_13_method_95_code 26 = .ok (.iadd, 1) := by decide +kernel
theorem d316_27 : decode prog_13_method_95_code 27 = .ok (.goto 34, 3) := by decide +kernel
theorem d316_30 : decode prog_13_method_95_code 30 = .ok (.iload_n 2, 1) := by decide +kernel
theorem d316_31 : decode prog_13_method_95_code 31 = .ok (.goto 30, 3) := by decide +kernel
theorem d316_34 : decode prog_13_method_95_code 34 = .ok (.iload_n 2, 1) := by decide +kernel
theorem d316_35 : decode prog_13_method_95_code 35 = .ok (.aload_n 0, 1) := by decide +kernel
theorem d316_36 : decode prog_13_method_95_code 36 = .ok (.getfield 431, 3) := by decide +kernel
theorem d316_39 : decode prog_13_method_95_code 39 = .ok (.if_icmp .ne 7, 3) := by decide +kernel
theorem d316_42 : decode prog_13_method_95_code 42 = .ok (.iconst (-1), 1) := by decide +kernel
theorem d316_43 : decode prog_13_method_95_code 43 = .ok (.goto 18, 3) := by decide +kernel
theorem d316_46 : decode prog_13_method_95_code 46 = .ok (.iload_n 2, 1) := by decide +kernel
theorem d316_47 : decode prog_13_method_95_code 47 = .ok (.aload_n 0, 1) := by decide +kernel
theorem d316_48 : decode prog_13_method_95_code 48 = .ok (.getfield 431, 3) := by decide +kernel
theorem d316_51 : decode prog_13_method_95_code 51 = .ok (.if_icmp .le 9, 3) := by decide +kernel
theorem d316_54 : decode prog_13_method_95_code 54 = .ok (.iload_n 2, 1) := by decide +kernel
theorem d316_55 : decode prog_13_method_95_code 55 = .ok (.iconst 1, 1) := by decide +kernel
theorem d316_56 : decode prog_13_method_95_code 56 = .ok (.isub, 1) := by decide +kernel
theorem d316_57 : decode prog_13_method_95_code 57 = .ok (.goto 4, 3) := by decide +kernel
theorem d316_60 : decode prog_13_method_95_code 60 = .ok (.iload_n 2, 1) := by decide +kernel
theorem d316_61 : decode prog_13_method_95_code 61 = .ok (.istore_n 3, 1) := by decide +kernel
theorem d316_62 : decode prog_13_method_95_code 62 = .ok (.iload_n 1, 1) := by decide +kernel
theorem d316_63 : decode prog_13_method_95_code 63 = .ok (.iload_n 3, 1) := by decide +kernel
theorem d316_64 : decode prog_13_method_95_code 64 = .ok (.ifCond .lt 11, 3) := by decide +kernel
theorem d316_67 : decode prog_13_method_95_code 67 = .ok (.iload_n 3, 1) := by decide +kernel
theorem d316_68 : decode prog_13_method_95_code 68 = .ok (.aload_n 0, 1) := by decide +kernel
theorem d316_69 : decode prog_13_method_95_code 69 = .ok (.invokevirtual 434, 3) := by decide +kernel
theorem k316_434_11 : xCa (xMo 316) 434 11 = some (1, 313, 0) := by decide +kernel
theorem n316_434 : xcn (xMo 316) 434 = some 0 := by decide +kernel
theorem d316_72 : decode prog_13_method_95_code 72 = .ok (.if_icmp .le 7, 3) := by decide +kernel
theorem d316_75 : decode prog_13_method_95_code 75 = .ok (.iconst (-1), 1) := by decide +kernel
theorem d316_76 : decode prog_13_method_95_code 76 = .ok (.goto 12, 3) := by decide +kernel
theorem d316_79 : decode prog_13_method_95_code 79 = .ok (.aload_n 0, 1) := by decide +kernel
theorem d316_80 : decode prog_13_method_95_code 80 = .ok (.iload_n 1, 1) := by decide +kernel
theorem d316_81 : decode prog_13_method_95_code 81 = .ok (.invokestatic 140, 3) := by decide +kernel
theorem d316_84 : decode prog_13_method_95_code 84 = .ok (.iload_n 3, 1) := by decide +kernel
theorem d316_85 : decode prog_13_method_95_code 85 = .ok (.invokevirtual 437, 3) := by decide +kernel
theorem k316_437_11 : xCa (xMo 316) 437 11 = some (1, 314, 2) := by decide +kernel
theorem n316_437 : xcn (xMo 316) 437 = some 2 := by decide +kernel
theorem d316_88 : decode prog_13_method_95_code 88 = .ok (.invokestatic 422, 3) := by decide +kernel
theorem k316_422_99 : xCa (xMo 316) 422 99 = some (0, 310, 2) := by decide +kernel
theorem d316_91 : decode prog_13_method_95_code 91 = .ok (.ireturn, 1) := by decide +kernel
set_option maxRecDepth 100000 in
theorem q317 : xMc 317 = prog_13_method_104_code := rfl
theorem m317 : xMl 317 = 3 ∧ xMret 317 = (some FieldType.int) ∧ xMh 317 = [] := by decide +kernel
theorem e317 {X : xX} {d : Nat} {w : xH} {Q : xO → xH → Prop} (a : Nat) (x0 : Int32) (x1 : Int32) : Cw X d 317 [.ref a, .int x0, .int x1] w Q = Wx X d 317 0 [some (.ref a), some (.int x0), some (.int x1)] [] w Q := by
  unfold Cw
  rw [m317.1]
  rfl
theorem d317_0 : decode prog_13_method_104_code 0 = .ok (.aload_n 0, 1) := by decide +kernel
theorem d317_1 : decode prog_13_method_104_code 1 = .ok (.iload_n 1, 1) := by decide +kernel
theorem d317_2 : decode prog_13_method_104_code 2 = .ok (.invokestatic 392, 3) := by decide +kernel
theorem k317_392_99 : xCa (xMo 317) 392 99 = some (0, 262, 1) := by decide +kernel
theorem d317_5 : decode prog_13_method_104_code 5 = .ok (.ifCond .eq 19, 3) := by decide +kernel
theorem d317_8 : decode prog_13_method_104_code 8 = .ok (.iload_n 2, 1) := by decide +kernel
theorem d317_9 : decode prog_13_method_104_code 9 = .ok (.invokestatic 392, 3) := by decide +kernel
theorem d317_12 : decode prog_13_method_104_code 12 = .ok (.ifCond .eq 12, 3) := by decide +kernel
theorem d317_15 : decode prog_13_method_104_code 15 = .ok (.iload_n 1, 1) := by decide +kernel
theorem d317_16 : decode prog_13_method_104_code 16 = .ok (.iload_n 2, 1) := by decide +kernel
theorem d317_17 : decode prog_13_method_104_code 17 = .ok (.if_icmp .eq 7, 3) := by decide +kernel
theorem d317_20 : decode prog_13_method_104_code 20 = .ok (.iconst 1, 1) := by decide +kernel
theorem d317_21 : decode prog_13_method_104_code 21 = .ok (.goto 4, 3) := by decide +kernel
theorem d317_24 : decode prog_13_method_104_code 24 = .ok (.iconst 0, 1) := by decide +kernel
theorem d317_25 : decode prog_13_method_104_code 25 = .ok (.invokevirtual 395, 3) := by decide +kernel
theorem k317_395_11 : xCa (xMo 317) 395 11 = some (1, 263, 1) := by decide +kernel
theorem n317_395 : xcn (xMo 317) 395 = some 1 := by decide +kernel
theorem d317_28 : decode prog_13_method_104_code 28 = .ok (.ifCond .ne 5, 3) := by decide +kernel
theorem d317_31 : decode prog_13_method_104_code 31 = .ok (.iconst 0, 1) := by decide +kernel
theorem d317_32 : decode prog_13_method_104_code 32 = .ok (.ireturn, 1) := by decide +kernel
theorem d317_33 : decode prog_13_method_104_code 33 = .ok (.aload_n 0, 1) := by decide +kernel
theorem d317_34 : decode prog_13_method_104_code 34 = .ok (.invokevirtual 399, 3) := by decide +kernel
theorem k317_399_11 : xCa (xMo 317) 399 11 = some (1, 264, 0) := by decide +kernel
theorem n317_399 : xcn (xMo 317) 399 = some 0 := by decide +kernel
theorem d317_37 : decode prog_13_method_104_code 37 = .ok (.aload_n 0, 1) := by decide +kernel
theorem d317_38 : decode prog_13_method_104_code 38 = .ok (.iload_n 1, 1) := by decide +kernel
theorem d317_39 : decode prog_13_method_104_code 39 = .ok (.iload_n 2, 1) := by decide +kernel
theorem d317_40 : decode prog_13_method_104_code 40 = .ok (.invokevirtual 471, 3) := by decide +kernel
theorem k317_471_11 : xCa (xMo 317) 471 11 = some (1, 318, 2) := by decide +kernel
theorem n317_471 : xcn (xMo 317) 471 = some 2 := by decide +kernel
theorem d317_43 : decode prog_13_method_104_code 43 = .ok (.aload_n 0, 1) := by decide +kernel
theorem d317_44 : decode prog_13_method_104_code 44 = .ok (.iload_n 1, 1) := by decide +kernel
theorem d317_45 : decode prog_13_method_104_code 45 = .ok (.putfield 446, 3) := by decide +kernel
theorem f317_446 : xFd (xMo 317) 446 = some (11, 51) := by decide +kernel
theorem d317_48 : decode prog_13_method_104_code 48 = .ok (.aload_n 0, 1) := by decide +kernel
theorem d317_49 : decode prog_13_method_104_code 49 = .ok (.iload_n 2, 1) := by decide +kernel
theorem d317_50 : decode prog_13_method_104_code 50 = .ok (.putfield 449, 3) := by decide +kernel
theorem f317_449 : xFd (xMo 317) 449 = some (11, 52) := by decide +kernel
theorem d317_53 : decode prog_13_method_104_code 53 = .ok (.aload_n 0, 1) := by decide +kernel
theorem d317_54 : decode prog_13_method_104_code 54 = .ok (.iconst 0, 1) := by decide +kernel
theorem d317_55 : decode prog_13_method_104_code 55 = .ok (.putfield 452, 3) := by decide +kernel
theorem f317_452 : xFd (xMo 317) 452 = some (11, 53) := by decide +kernel
theorem d317_58 : decode prog_13_method_104_code 58 = .ok (.aload_n 0, 1) := by decide +kernel
theorem d317_59 : decode prog_13_method_104_code 59 = .ok (.iconst 2, 1) := by decide +kernel
theorem d317_60 : decode prog_13_method_104_code 60 = .ok (.invokevirtual 474, 3) := by decide +kernel
theorem k317_474_11 : xCa (xMo 317) 474 11 = some (1, 319, 1) := by decide +kernel
theorem n317_474 : xcn (xMo 317) 474 = some 1 := by decide +kernel
theorem d317_63 : decode prog_13_method_104_code 63 = .ok (.aload_n 0, 1) := by decide +kernel
theorem d317_64 : decode prog_13_method_104_code 64 = .ok (.invokevirtual 410, 3) := by decide +kernel
theorem k317_410_11 : xCa (xMo 317) 410 11 = some (1, 303, 0) := by decide +kernel
theorem n317_410 : xcn (xMo 317) 410 = some 0 := by decide +kernel
theorem d317_67 : decode prog_13_method_104_code 67 = .ok (.aload_n 0, 1) := by decide +kernel
theorem d317_68 : decode prog_13_method_104_code 68 = .ok (.getfield 452, 3) := by decide +kernel
theorem d317_71 : decode prog_13_method_104_code 71 = .ok (.ireturn, 1) := by decide +kernel
set_option maxRecDepth 100000 in
theorem q318 : xMc 318 = prog_13_method_102_code := rfl
theorem m318 : xMl 318 = 4 ∧ xMret 318 = none ∧ xMh 318 = [] := by decide +kernel
theorem e318 {X : xX} {d : Nat} {w : xH} {Q : xO → xH → Prop} (a : Nat) (x0 : Int32) (x1 : Int32) : Cw X d 318 [.ref a, .int x0, .int x1] w Q = Wx X d 318 0 [some (.ref a), some (.int x0), some (.int x1), none] [] w Q := by
  unfold Cw
  rw [m318.1]
  rfl
theorem d318_0 : decode prog_13_method_102_code 0 = .ok (.iconst 0, 1) := by decide +kernel
theorem d318_1 : decode prog_13_method_102_code 1 = .ok (.istore_n 3, 1) := by decide +kernel
theorem d318_2 : decode prog_13_method_102_code 2 = .ok (.iload_n 3, 1) := by decide +kernel
theorem d318_3 : decode prog_13_method_102_code 3 = .ok (.bipush 60, 2) := by decide +kernel
theorem d318_5 : decode prog_13_method_102_code 5 = .ok (.if_icmp .ge 30, 3) := by decide +kernel
theorem d318_8 : decode prog_13_method_102_code 8 = .ok (.aload_n 0, 1) := by decide +kernel
theorem d318_9 : decode prog_13_method_102_code 9 = .ok (.iload_n 2, 1) := by decide +kernel
theorem d318_10 : decode prog_13_method_102_code 10 = .ok (.iload_n 3, 1) := by decide +kernel
theorem d318_11 : decode prog_13_method_102_code 11 = .ok (.aload_n 0, 1) := by decide +kernel
theorem d318_12 : decode prog_13_method_102_code 12 = .ok (.getfield 7, 3) := by decide +kernel
theorem f318_7 : xFd (xMo 318) 7 = some (11, 0) := by decide +kernel
theorem d318_15 : decode prog_13_method_102_code 15 = .ok (.sipush 602, 3) := by decide +kernel
theorem d318_18 : decode prog_13_method_102_code 18 = .ok (.bipush 60, 2) := by decide +kernel
theorem d318_20 : decode prog_13_method_102_code 20 = .ok (.iload_n 1, 1) := by decide +kernel
theorem d318_21 : decode prog_13_method_102_code 21 = .ok (.imul, 1) := by decide +kernel
theorem d318_22 : decode prog_13_method_102_code 22 = .ok (.iadd, 1) := by decide +kernel
theorem d318_23 : decode prog_13_method_102_code 23 = .ok (.iload_n 3, 1) := by decide +kernel
theorem d318_24 : decode prog_13_method_102_code 24 = .ok (.iadd, 1) := by decide +kernel
theorem d318_25 : decode prog_13_method_102_code 25 = .ok (.iaload, 1) := by decide +kernel
theorem d318_26 : decode prog_13_method_102_code 26 = .ok (.invokevirtual 119, 3) := by decide +kernel
theorem k318_119_11 : xCa (xMo 318) 119 11 = some (1, 269, 3) := by decide +kernel
theorem n318_119 : xcn (xMo 318) 119 = some 3 := by decide +kernel
theorem d318_29 : decode prog_13_method_102_code 29 = .ok (.iinc 3 1, 3) := by decide +kernel
theorem d318_32 : decode prog_13_method_102_code 32 = .ok (.goto (-30), 3) := by decide +kernel
theorem d318_35 : decode prog_13_method_102_code 35 = .ok (.aload_n 0, 1) := by decide +kernel
theorem d318_36 : decode prog_13_method_102_code 36 = .ok (.getfield 7, 3) := by decide +kernel
theorem d318_39 : decode prog_13_method_102_code 39 = .ok (.iload_n 2, 1) := by decide +kernel
theorem d318_40 : decode prog_13_method_102_code 40 = .ok (.aload_n 0, 1) := by decide +kernel
theorem d318_41 : decode prog_13_method_102_code 41 = .ok (.getfield 7, 3) := by decide +kernel
theorem d318_44 : decode prog_13_method_102_code 44 = .ok (.iload_n 1, 1) := by decide +kernel
theorem d318_45 : decode prog_13_method_102_code 45 = .ok (.iaload, 1) := by decide +kernel
theorem d318_46 : decode prog_13_method_102_code 46 = .ok (.iastore, 1) := by decide +kernel
theorem d318_47 : decode prog_13_method_102_code 47 = .ok (.aload_n 0, 1) := by decide +kernel
theorem d318_48 : decode prog_13_method_102_code 48 = .ok (.getfield 7, 3) := by decide +kernel
theorem d318_51 : decode prog_13_method_102_code 51 = .ok (.sipush 200, 3) := by decide +kernel
theorem d318_54 : decode prog_13_method_102_code 54 = .ok (.iload_n 2, 1) := by decide +kernel
theorem d318_55 : decode prog_13_method_102_code 55 = .ok (.iadd, 1) := by decide +kernel
theorem d318_56 : decode prog_13_method_102_code 56 = .ok (.aload_n 0, 1) := by decide +kernel
theorem d318_57 : decode prog_13_method_102_code 57 = .ok (.getfield 7, 3) := by decide +kernel
theorem d318_60 : decode prog_13_method_102_code 60 = .ok (.sipush 200, 3) := by decide +kernel
theorem d318_63 : decode prog_13_method_102_code 63 = .ok (.iload_n 1, 1) := by decide +kernel
theorem d318_64 : decode prog_13_method_102_code 64 = .ok (.iadd, 1) := by decide +kernel
theorem d318_65 : decode prog_13_method_102_code 65 = .ok (.iaload, 1) := by decide +kernel
theorem d318_66 : decode prog_13_method_102_code 66 = .ok (.iastore, 1) := by decide +kernel
theorem d318_67 : decode prog_13_method_102_code 67 = .ok (.aload_n 0, 1) := by decide +kernel
theorem d318_68 : decode prog_13_method_102_code 68 = .ok (.getfield 7, 3) := by decide +kernel
theorem d318_71 : decode prog_13_method_102_code 71 = .ok (.sipush 400, 3) := by decide +kernel
theorem d318_74 : decode prog_13_method_102_code 74 = .ok (.iload_n 2, 1) := by decide +kernel
theorem d318_75 : decode prog_13_method_102_code 75 = .ok (.iadd, 1) := by decide +kernel
theorem d318_76 : decode prog_13_method_102_code 76 = .ok (.aload_n 0, 1) := by decide +kernel
theorem d318_77 : decode prog_13_method_102_code 77 = .ok (.getfield 7, 3) := by decide +kernel
theorem d318_80 : decode prog_13_method_102_code 80 = .ok (.sipush 400, 3) := by decide +kernel
theorem d318_83 : decode prog_13_method_102_code 83 = .ok (.iload_n 1, 1) := by decide +kernel
theorem d318_84 : decode prog_13_method_102_code 84 = .ok (.iadd, 1) := by decide +kernel
theorem d318_85 : decode prog_13_method_102_code 85 = .ok (.iaload, 1) := by decide +kernel
theorem d318_86 : decode prog_13_method_102_code 86 = .ok (.iastore, 1) := by decide +kernel
theorem d318_87 : decode prog_13_method_102_code 87 = .ok (.aload_n 0, 1) := by decide +kernel
theorem d318_88 : decode prog_13_method_102_code 88 = .ok (.iload_n 1, 1) := by decide +kernel
theorem d318_89 : decode prog_13_method_102_code 89 = .ok (.invokevirtual 379, 3) := by decide +kernel
theorem k318_379_11 : xCa (xMo 318) 379 11 = some (1, 268, 1) := by decide +kernel
theorem n318_379 : xcn (xMo 318) 379 = some 1 := by decide +kernel
theorem d318_92 : decode prog_13_method_102_code 92 = .ok (.return_, 1) := by decide +kernel
set_option maxRecDepth 100000 in
theorem q319 : xMc 319 = prog_13_method_101_code := rfl
theorem m319 : xMl 319 = 3 ∧ xMret 319 = none ∧ xMh 319 = [] := by decide +kernel
theorem e319 {X : xX} {d : Nat} {w : xH} {Q : xO → xH → Prop} (a : Nat) (x0 : Int32) : Cw X d 319 [.ref a, .int x0] w Q = Wx X d 319 0 [some (.ref a), some (.int x0), none] [] w Q := by
  unfold Cw
  rw [m319.1]
  rfl
theorem d319_0 : decode prog_13_method_101_code 0 = .ok (.iconst 0, 1) := by decide +kernel
theorem d319_1 : decode prog_13_method_101_code 1 = .ok (.istore_n 2, 1) := by decide +kernel
theorem d319_2 : decode prog_13_method_101_code 2 = .ok (.iload_n 2, 1) := by decide +kernel
theorem d319_3 : decode prog_13_method_101_code 3 = .ok (.sipush 200, 3) := by decide +kernel
theorem d319_6 : decode prog_13_method_101_code 6 = .ok (.if_icmp .ge 25, 3) := by decide +kernel
theorem d319_9 : decode prog_13_method_101_code 9 = .ok (.aload_n 0, 1) := by decide +kernel
theorem d319_10 : decode prog_13_method_101_code 10 = .ok (.iload_n 2, 1) := by decide +kernel
theorem d319_11 : decode prog_13_method_101_code 11 = .ok (.iconst 2, 1) := by decide +kernel
theorem d319_12 : decode prog_13_method_101_code 12 = .ok (.invokevirtual 133, 3) := by decide +kernel
theorem k319_133_11 : xCa (xMo 319) 133 11 = some (1, 219, 2) := by decide +kernel
theorem n319_133 : xcn (xMo 319) 133 = some 2 := by decide +kernel
theorem d319_15 : decode prog_13_method_101_code 15 = .ok (.ifCond .eq 10, 3) := by decide +kernel
theorem d319_18 : decode prog_13_method_101_code 18 = .ok (.aload_n 0, 1) := by decide +kernel
theorem d319_19 : decode prog_13_method_101_code 19 = .ok (.iload_n 2, 1) := by decide +kernel
theorem d319_20 : decode prog_13_method_101_code 20 = .ok (.iload_n 2, 1) := by decide +kernel
theorem d319_21 : decode prog_13_method_101_code 21 = .ok (.iload_n 1, 1) := by decide +kernel
theorem d319_22 : decode prog_13_method_101_code 22 = .ok (.invokevirtual 468, 3) := by decide +kernel
theorem k319_468_11 : xCa (xMo 319) 468 11 = some (1, 306, 3) := by decide +kernel
theorem n319_468 : xcn (xMo 319) 468 = some 3 := by decide +kernel
theorem d319_25 : decode prog_13_method_101_code 25 = .ok (.iinc 2 1, 3) := by decide +kernel
theorem d319_28 : decode prog_13_method_101_code 28 = .ok (.goto (-26), 3) := by decide +kernel
theorem d319_31 : decode prog_13_method_101_code 31 = .ok (.return_, 1) := by decide +kernel
set_option maxRecDepth 100000 in
theorem q320 : xMc 320 = prog_13_method_111_code := rfl
theorem m320 : xMl 320 = 2 ∧ xMret 320 = (some FieldType.int) ∧ xMh 320 = [] := by decide +kernel
theorem e320 {X : xX} {d : Nat} {w : xH} {Q : xO → xH → Prop} (a : Nat) (x0 : Int32) : Cw X d 320 [.ref a, .int x0] w Q = Wx X d 320 0 [some (.ref a), some (.int x0)] [] w Q := by
  unfold Cw
  rw [m320.1]
  rfl
theorem d320_0 : decode prog_13_method_111_code 0 = .ok (.aload_n 0, 1) := by decide +kernel
theorem d320_1 : decode prog_13_method_111_code 1 = .ok (.iconst 1, 1) := by decide +kernel
theorem d320_2 : decode prog_13_method_111_code 2 = .ok (.iload_n 1, 1) := by decide +kernel
theorem d320_3 : decode prog_13_method_111_code 3 = .ok (.invokevirtual 486, 3) := by decide +kernel
theorem k320_486_11 : xCa (xMo 320) 486 11 = some (1, 321, 2) := by decide +kernel
theorem n320_486 : xcn (xMo 320) 486 = some 2 := by decide +kernel
theorem d320_6 : decode prog_13_method_111_code 6 = .ok (.ifCond .eq 11, 3) := by decide +kernel
theorem d320_9 : decode prog_13_method_111_code 9 = .ok (.aload_n 0, 1) := by decide +kernel
theorem d320_10 : decode prog_13_method_111_code 10 = .ok (.iload_n 1, 1) := by decide +kernel
theorem d320_11 : decode prog_13_method_111_code 11 = .ok (.invokevirtual 490, 3) := by decide +kernel
theorem k320_490_11 : xCa (xMo 320) 490 11 = some (1, 322, 1) := by decide +kernel
theorem n320_490 : xcn (xMo 320) 490 = some 1 := by decide +kernel
theorem d320_14 : decode prog_13_method_111_code 14 = .ok (.goto 4, 3) := by decide +kernel
theorem d320_17 : decode prog_13_method_111_code 17 = .ok (.iconst 0, 1) := by decide +kernel
theorem d320_18 : decode prog_13_method_111_code 18 = .ok (.ireturn, 1) := by decide +kernel
set_option maxRecDepth 100000 in
theorem q321 : xMc 321 = prog_13_method_110_code := rfl
theorem m321 : xMl 321 = 3 ∧ xMret 321 = (some FieldType.boolean) ∧ xMh 321 = [] := by decide +kernel
theorem e321 {X : xX} {d : Nat} {w : xH} {Q : xO → xH → Prop} (a : Nat) (x0 : Int32) (x1 : Int32) : Cw X d 321 [.ref a, .int x0, .int x1] w Q = Wx X d 321 0 [some (.ref a), some (.int x0), some (.int x1)] [] w Q := by
  unfold Cw
  rw [m321.1]
  rfl
theorem d321_0 : decode prog_13_method_110_code 0 = .ok (.aload_n 0, 1) := by decide +kernel
theorem d321_1 : decode prog_13_method_110_code 1 = .ok (.iload_n 1, 1) := by decide +kernel
theorem d321_2 : decode prog_13_method_110_code 2 = .ok (.putfield 413, 3) := by decide +kernel
theorem f321_413 : xFd (xMo 321) 413 = some (11, 48) := by decide +kernel
theorem d321_5 : decode prog_13_method_110_code 5 = .ok (.aload_n 0, 1) := by decide +kernel
theorem d321_6 : decode prog_13_method_110_code 6 = .ok (.iload_n 2, 1) := by decide +kernel
theorem d321_7 : decode prog_13_method_110_code 7 = .ok (.iconst 0, 1) := by decide +kernel
theorem d321_8 : decode prog_13_method_110_code 8 = .ok (.aload_n 0, 1) := by decide +kernel
theorem d321_9 : decode prog_13_method_110_code 9 = .ok (.invokevirtual 434, 3) := by decide +kernel
theorem k321_434_11 : xCa (xMo 321) 434 11 = some (1, 313, 0) := by decide +kernel
theorem n321_434 : xcn (xMo 321) 434 = some 0 := by decide +kernel
theorem d321_12 : decode prog_13_method_110_code 12 = .ok (.invokestatic 91, 3) := by decide +kernel
theorem k321_91_99 : xCa (xMo 321) 91 99 = some (0, 232, 3) := by decide +kernel
theorem d321_15 : decode prog_13_method_110_code 15 = .ok (.invokevirtual 395, 3) := by decide +kernel
theorem k321_395_11 : xCa (xMo 321) 395 11 = some (1, 263, 1) := by decide +kernel
theorem n321_395 : xcn (xMo 321) 395 = some 1 := by decide +kernel
theorem d321_18 : decode prog_13_method_110_code 18 = .ok (.ireturn, 1) := by decide +kernel
set_option maxRecDepth 100000 in
theorem q322 : xMc 322 = prog_13_method_108_code := rfl
theorem m322 : xMl 322 = 3 ∧ xMret 322 = (some FieldType.int) ∧ xMh 322 = [] := by decide +kernel
theorem e322 {X : xX} {d : Nat} {w : xH} {Q : xO → xH → Prop} (a : Nat) (x0 : Int32) : Cw X d 322 [.ref a, .int x0] w Q = Wx X d 322 0 [some (.ref a), some (.int x0), none] [] w Q := by
  unfold Cw
  rw [m322.1]
  rfl
theorem d322_0 : decode prog_13_method_108_code 0 = .ok (.aload_n 0, 1) := by decide +kernel
theorem d322_1 : decode prog_13_method_108_code 1 = .ok (.iconst 1, 1) := by decide +kernel
theorem d322_2 : decode prog_13_method_108_code 2 = .ok (.putfield 428, 3) := by decide +kernel
theorem f322_428 : xFd (xMo 322) 428 = some (11, 49) := by decide +kernel
theorem d322_5 : decode prog_13_method_108_code 5 = .ok (.aload_n 0, 1) := by decide +kernel
theorem d322_6 : decode prog_13_method_108_code 6 = .ok (.iload_n 1, 1) := by decide +kernel
theorem d322_7 : decode prog_13_method_108_code 7 = .ok (.putfield 431, 3) := by decide +kernel
theorem f322_431 : xFd (xMo 322) 431 = some (11, 50) := by decide +kernel
theorem d322_10 : decode prog_13_method_108_code 10 = .ok (.aload_n 0, 1) := by decide +kernel
theorem d322_11 : decode prog_13_method_108_code 11 = .ok (.aload_n 0, 1) := by decide +kernel
theorem d322_12 : decode prog_13_method_108_code 12 = .ok (.invokevirtual 434, 3) := by decide +kernel
theorem k322_434_11 : xCa (xMo 322) 434 11 = some (1, 313, 0) := by decide +kernel
theorem n322_434 : xcn (xMo 322) 434 = some 0 := by decide +kernel
theorem d322_15 : decode prog_13_method_108_code 15 = .ok (.aload_n 0, 1) := by decide +kernel
theorem d322_16 : decode prog_13_method_108_code 16 = .ok (.invokevirtual 434, 3) := by decide +kernel
theorem d322_19 : decode prog_13_method_108_code 19 = .ok (.invokevirtual 477, 3) := by decide +kernel
theorem k322_477_11 : xCa (xMo 322) 477 11 = some (1, 323, 2) := by decide +kernel
theorem n322_477 : xcn (xMo 322) 477 = some 2 := by decide +kernel
theorem d322_22 : decode prog_13_method_108_code 22 = .ok (.ifCond .le 9, 3) := by decide +kernel
theorem d322_25 : decode prog_13_method_108_code 25 = .ok (.aload_n 0, 1) := by decide +kernel
theorem d322_26 : decode prog_13_method_108_code 26 = .ok (.iconst 2, 1) := by decide +kernel
theorem d322_27 : decode prog_13_method_108_code 27 = .ok (.invokevirtual 382, 3) := by decide +kernel
theorem k322_382_11 : xCa (xMo 322) 382 11 = some (1, 233, 1) := by decide +kernel
theorem n322_382 : xcn (xMo 322) 382 = some 1 := by decide +kernel
theorem d322_30 : decode prog_13_method_108_code 30 = .ok (.ireturn, 1) := by decide +kernel
theorem d322_31 : decode prog_13_method_108_code 31 = .ok (.aload_n 0, 1) := by decide +kernel
theorem d322_32 : decode prog_13_method_108_code 32 = .ok (.invokevirtual 399, 3) := by decide +kernel
theorem k322_399_11 : xCa (xMo 322) 399 11 = some (1, 264, 0) := by decide +kernel
theorem n322_399 : xcn (xMo 322) 399 = some 0 := by decide +kernel
theorem d322_35 : decode prog_13_method_108_code 35 = .ok (.aload_n 0, 1) := by decide +kernel
theorem d322_36 : decode prog_13_method_108_code 36 = .ok (.iload_n 1, 1) := by decide +kernel
theorem d322_37 : decode prog_13_method_108_code 37 = .ok (.aload_n 0, 1) := by decide +kernel
theorem d322_38 : decode prog_13_method_108_code 38 = .ok (.invokevirtual 434, 3) := by decide +kernel
theorem d322_41 : decode prog_13_method_108_code 41 = .ok (.invokevirtual 477, 3) := by decide +kernel
theorem d322_44 : decode prog_13_method_108_code 44 = .ok (.istore_n 2, 1) := by decide +kernel
theorem d322_45 : decode prog_13_method_108_code 45 = .ok (.aload_n 0, 1) := by decide +kernel
theorem d322_46 : decode prog_13_method_108_code 46 = .ok (.invokevirtual 480, 3) := by decide +kernel
theorem k322_480_11 : xCa (xMo 322) 480 11 = some (1, 324, 0) := by decide +kernel
theorem n322_480 : xcn (xMo 322) 480 = some 0 := by decide +kernel
theorem d322_49 : decode prog_13_method_108_code 49 = .ok (.aload_n 0, 1) := by decide +kernel
theorem d322_50 : decode prog_13_method_108_code 50 = .ok (.iconst 1, 1) := by decide +kernel
theorem d322_51 : decode prog_13_method_108_code 51 = .ok (.invokevirtual 474, 3) := by decide +kernel
theorem k322_474_11 : xCa (xMo 322) 474 11 = some (1, 319, 1) := by decide +kernel
theorem n322_474 : xcn (xMo 322) 474 = some 1 := by decide +kernel
theorem d322_54 : decode prog_13_method_108_code 54 = .ok (.aload_n 0, 1) := by decide +kernel
theorem d322_55 : decode prog_13_method_108_code 55 = .ok (.invokevirtual 410, 3) := by decide +kernel
theorem k322_410_11 : xCa (xMo 322) 410 11 = some (1, 303, 0) := by decide +kernel
theorem n322_410 : xcn (xMo 322) 410 = some 0 := by decide +kernel
theorem d322_58 : decode prog_13_method_108_code 58 = .ok (.iload_n 2, 1) := by decide +kernel
theorem d322_59 : decode prog_13_method_108_code 59 = .ok (.ireturn, 1) := by decide +kernel
set_option maxRecDepth 100000 in
theorem q323 : xMc 323 = prog_13_method_105_code := rfl
theorem m323 : xMl 323 = 5 ∧ xMret 323 = (some FieldType.int) ∧ xMh 323 = [] := by decide +kernel
theorem e323 {X : xX} {d : Nat} {w : xH} {Q : xO → xH → Prop} (a : Nat) (x0 : Int32) (x1 : Int32) : Cw X d 323 [.ref a, .int x0, .int x1] w Q = Wx X d 323 0 [some (.ref a), some (.int x0), some (.int x1), none, none] [] w Q := by
  unfold Cw
  rw [m323.1]
  rfl
theorem d323_0 : decode prog_13_method_105_code 0 = .ok (.iconst 0, 1) := by decide +kernel
theorem d323_1 : decode prog_13_method_105_code 1 = .ok (.istore_n 3, 1) := by decide +kernel
theorem d323_2 : decode prog_13_method_105_code 2 = .ok (.iconst 0, 1) := by decide +kernel
theorem d323_3 : decode prog_13_method_105_code 3 = .ok (.istore 4, 2) := by decide +kernel
theorem d323_5 : decode prog_13_method_105_code 5 = .ok (.iload 4, 2) := by decide +kernel
theorem d323_7 : decode prog_13_method_105_code 7 = .ok (.sipush 200, 3) := by decide +kernel
theorem d323_10 : decode prog_13_method_105_code 10 = .ok (.if_icmp .ge 41, 3) := by decide +kernel
theorem d323_13 : decode prog_13_method_105_code 13 = .ok (.iload_n 3, 1) := by decide +kernel
theorem d323_14 : decode prog_13_method_105_code 14 = .ok (.aload_n 0, 1) := by decide +kernel
theorem d323_15 : decode prog_13_method_105_code 15 = .ok (.iload 4, 2) := by decide +kernel
theorem d323_17 : decode prog_13_method_105_code 17 = .ok (.invokevirtual 425, 3) := by decide +kernel
theorem k323_425_11 : xCa (xMo 323) 425 11 = some (1, 312, 1) := by decide +kernel
theorem n323_425 : xcn (xMo 323) 425 = some 1 := by decide +kernel
theorem d323_20 : decode prog_13_method_105_code 20 = .ok (.iload_n 1, 1) := by decide +kernel
theorem d323_21 : decode prog_13_method_105_code 21 = .ok (.iload_n 2, 1) := by decide +kernel
theorem d323_22 : decode prog_13_method_105_code 22 = .ok (.invokestatic 91, 3) := by decide +kernel
theorem k323_91_99 : xCa (xMo 323) 91 99 = some (0, 232, 3) := by decide +kernel
theorem d323_25 : decode prog_13_method_105_code 25 = .ok (.ifCond .eq 17, 3) := by decide +kernel
theorem d323_28 : decode prog_13_method_105_code 28 = .ok (.aload_n 0, 1) := by decide +kernel
theorem d323_29 : decode prog_13_method_105_code 29 = .ok (.iload 4, 2) := by decide +kernel
theorem d323_31 : decode prog_13_method_105_code 31 = .ok (.iconst 0, 1) := by decide +kernel
theorem d323_32 : decode prog_13_method_105_code 32 = .ok (.invokevirtual 133, 3) := by decide +kernel
theorem k323_133_11 : xCa (xMo 323) 133 11 = some (1, 219, 2) := by decide +kernel
theorem n323_133 : xcn (xMo 323) 133 = some 2 := by decide +kernel
theorem d323_35 : decode prog_13_method_105_code 35 = .ok (.ifCond .ne 7, 3) := by decide +kernel
theorem d323_38 : decode prog_13_method_105_code 38 = .ok (.iconst 1, 1) := by decide +kernel
theorem d323_39 : decode prog_13_method_105_code 39 = .ok (.goto 4, 3) := by decide +kernel
theorem d323_42 : decode prog_13_method_105_code 42 = .ok (.iconst 0, 1) := by decide +kernel
theorem d323_43 : decode prog_13_method_105_code 43 = .ok (.iadd, 1) := by decide +kernel
theorem d323_44 : decode prog_13_method_105_code 44 = .ok (.istore_n 3, 1) := by decide +kernel
theorem d323_45 : decode prog_13_method_105_code 45 = .ok (.iinc 4 1, 3) := by decide +kernel
theorem d323_48 : decode prog_13_method_105_code 48 = .ok (.goto (-43), 3) := by decide +kernel
theorem d323_51 : decode prog_13_method_105_code 51 = .ok (.iload_n 3, 1) := by decide +kernel
theorem d323_52 : decode prog_13_method_105_code 52 = .ok (.ireturn, 1) := by decide +kernel
set_option maxRecDepth 100000 in
theorem q324 : xMc 324 = prog_13_method_106_code := rfl
theorem m324 : xMl 324 = 4 ∧ xMret 324 = none ∧ xMh 324 = [] := by decide +kernel
theorem e324 {X : xX} {d : Nat} {w : xH} {Q : xO → xH → Prop} (a : Nat) : Cw X d 324 [.ref a] w Q = Wx X d 324 0 [some (.ref a), none, none, none] [] w Q := by
  unfold Cw
  rw [m324.1]
  rfl
theorem d324_0 : decode prog_13_method_106_code 0 = .ok (.iconst 0, 1) := by decide +kernel
theorem d324_1 : decode prog_13_method_106_code 1 = .ok (.istore_n 1, 1) := by decide +kernel
theorem d324_2 : decode prog_13_method_106_code 2 = .ok (.iload_n 1, 1) := by decide +kernel
theorem d324_3 : decode prog_13_method_106_code 3 = .ok (.sipush 200, 3) := by decide +kernel
theorem d324_6 : decode prog_13_method_106_code 6 = .ok (.if_icmp .ge 99, 3) := by decide +kernel
theorem d324_9 : decode prog_13_method_106_code 9 = .ok (.aload_n 0, 1) := by decide +kernel
theorem d324_10 : decode prog_13_method_106_code 10 = .ok (.getfield 428, 3) := by decide +kernel
theorem f324_428 : xFd (xMo 324) 428 = some (11, 49) := by decide +kernel
theorem d324_13 : decode prog_13_method_106_code 13 = .ok (.ifCond .eq 11, 3) := by decide +kernel
theorem d324_16 : decode prog_13_method_106_code 16 = .ok (.sipush 199, 3) := by decide +kernel
theorem d324_19 : decode prog_13_method_106_code 19 = .ok (.iload_n 1, 1) := by decide +kernel
theorem d324_20 : decode prog_13_method_106_code 20 = .ok (.isub, 1) := by decide +kernel
theorem d324_21 : decode prog_13_method_106_code 21 = .ok (.goto 4, 3) := by decide +kernel
theorem d324_24 : decode prog_13_method_106_code 24 = .ok (.iload_n 1, 1) := by decide +kernel
theorem d324_25 : decode prog_13_method_106_code 25 = .ok (.istore_n 2, 1) := by decide +kernel
theorem d324_26 : decode prog_13_method_106_code 26 = .ok (.aload_n 0, 1) := by decide +kernel
theorem d324_27 : decode prog_13_method_106_code 27 = .ok (.iload_n 2, 1) := by decide +kernel
theorem d324_28 : decode prog_13_method_106_code 28 = .ok (.invokevirtual 425, 3) := by decide +kernel
theorem k324_425_11 : xCa (xMo 324) 425 11 = some (1, 312, 1) := by decide +kernel
theorem n324_425 : xcn (xMo 324) 425 = some 1 := by decide +kernel
theorem d324_31 : decode prog_13_method_106_code 31 = .ok (.istore_n 3, 1) := by decide +kernel
theorem d324_32 : decode prog_13_method_106_code 32 = .ok (.aload_n 0, 1) := by decide +kernel
theorem d324_33 : decode prog_13_method_106_code 33 = .ok (.getfield 428, 3) := by decide +kernel
theorem d324_36 : decode prog_13_method_106_code 36 = .ok (.ifCond .eq 35, 3) := by decide +kernel
theorem d324_39 : decode prog_13_method_106_code 39 = .ok (.iload_n 3, 1) := by decide +kernel
theorem d324_40 : decode prog_13_method_106_code 40 = .ok (.aload_n 0, 1) := by decide +kernel
theorem d324_41 : decode prog_13_method_106_code 41 = .ok (.getfield 431, 3) := by decide +kernel
theorem f324_431 : xFd (xMo 324) 431 = some (11, 50) := by decide +kernel
theorem d324_44 : decode prog_13_method_106_code 44 = .ok (.if_icmp .lt 27, 3) := by decide +kernel
theorem d324_47 : decode prog_13_method_106_code 47 = .ok (.iload_n 3, 1) := by decide +kernel
theorem d324_48 : decode prog_13_method_106_code 48 = .ok (.aload_n 0, 1) := by decide +kernel
theorem d324_49 : decode prog_13_method_106_code 49 = .ok (.invokevirtual 434, 3) := by decide +kernel
theorem k324_434_11 : xCa (xMo 324) 434 11 = some (1, 313, 0) := by decide +kernel
theorem n324_434 : xcn (xMo 324) 434 = some 0 := by decide +kernel
theorem d324_52 : decode prog_13_method_106_code 52 = .ok (.if_icmp .ge 19, 3) := by decide +kernel
theorem d324_55 : decode prog_13_method_106_code 55 = .ok (.aload_n 0, 1) := by decide +kernel
theorem d324_56 : decode prog_13_method_106_code 56 = .ok (.iload_n 2, 1) := by decide +kernel
theorem d324_57 : decode prog_13_method_106_code 57 = .ok (.aload_n 0, 1) := by decide +kernel
theorem d324_58 : decode prog_13_method_106_code 58 = .ok (.iload_n 2, 1) := by decide +kernel
theorem d324_59 : decode prog_13_method_106_code 59 = .ok (.iload_n 3, 1) := by decide +kernel
theorem d324_60 : decode prog_13_method_106_code 60 = .ok (.iconst 1, 1) := by decide +kernel
theorem d324_61 : decode prog_13_method_106_code 61 = .ok (.iadd, 1) := by decide +kernel
theorem d324_62 : decode prog_13_method_106_code 62 = .ok (.invokevirtual 437, 3) := by decide +kernel
theorem k324_437_11 : xCa (xMo 324) 437 11 = some (1, 314, 2) := by decide +kernel
theorem n324_437 : xcn (xMo 324) 437 = some 2 := by decide +kernel
theorem d324_65 : decode prog_13_method_106_code 65 = .ok (.invokevirtual 471, 3) := by decide +kernel
theorem k324_471_11 : xCa (xMo 324) 471 11 = some (1, 318, 2) := by decide +kernel
theorem n324_471 : xcn (xMo 324) 471 = some 2 := by decide +kernel
theorem d324_68 : decode prog_13_method_106_code 68 = .ok (.goto 31, 3) := by decide +kernel
theorem d324_71 : decode prog_13_method_106_code 71 = .ok (.aload_n 0, 1) := by decide +kernel
theorem d324_72 : decode prog_13_method_106_code 72 = .ok (.getfield 428, 3) := by decide +kernel
theorem d324_75 : decode prog_13_method_106_code 75 = .ok (.ifCond .ne 24, 3) := by decide +kernel
theorem d324_78 : decode prog_13_method_106_code 78 = .ok (.iload_n 3, 1) := by decide +kernel
theorem d324_79 : decode prog_13_method_106_code 79 = .ok (.aload_n 0, 1) := by decide +kernel
theorem d324_80 : decode prog_13_method_106_code 80 = .ok (.getfield 431, 3) := by decide +kernel
theorem d324_83 : decode prog_13_method_106_code 83 = .ok (.if_icmp .le 16, 3) := by decide +kernel
theorem d324_86 : decode prog_13_method_106_code 86 = .ok (.aload_n 0, 1) := by decide +kernel
theorem d324_87 : decode prog_13_method_106_code 87 = .ok (.iload_n 2, 1) := by decide +kernel
theorem d324_88 : decode prog_13_method_106_code 88 = .ok (.aload_n 0, 1) := by decide +kernel
theorem d324_89 : decode prog_13_method_106_code 89 = .ok (.iload_n 2, 1) := by decide +kernel
theorem d324_90 : decode prog_13_method_106_code 90 = .ok (.iload_n 3, 1) := by decide +kernel
theorem d324_91 : decode prog_13_method_106_code 91 = .ok (.iconst 1, 1) := by decide +kernel
theorem d324_92 : decode prog_13_method_106_code 92 = .ok (.isub, 1) := by decide +kernel
theorem d324_93 : decode prog_13_method_106_code 93 = .ok (.invokevirtual 437, 3) := by decide +kernel
theorem d324_96 : decode prog_13_method_106_code 96 = .ok (.invokevirtual 471, 3) := by decide +kernel
theorem d324_99 : decode prog_13_method_106_code 99 = .ok (.iinc 1 1, 3) := by decide +kernel
theorem d324_102 : decode prog_13_method_106_code 102 = .ok (.goto (-100), 3) := by decide +kernel
theorem d324_105 : decode prog_13_method_106_code 105 = .ok (.return_, 1) := by decide +kernel
set_option maxRecDepth 100000 in
theorem q325 : xMc 325 = prog_13_method_112_code := rfl
theorem m325 : xMl 325 = 2 ∧ xMret 325 = (some FieldType.int) ∧ xMh 325 = [] := by decide +kernel
theorem e325 {X : xX} {d : Nat} {w : xH} {Q : xO → xH → Prop} (a : Nat) (x0 : Int32) : Cw X d 325 [.ref a, .int x0] w Q = Wx X d 325 0 [some (.ref a), some (.int x0)] [] w Q := by
  unfold Cw
  rw [m325.1]
  rfl
theorem d325_0 : decode prog_13_method_112_code 0 = .ok (.aload_n 0, 1) := by decide +kernel
theorem d325_1 : decode prog_13_method_112_code 1 = .ok (.iconst 1, 1) := by decide +kernel
theorem d325_2 : decode prog_13_method_112_code 2 = .ok (.iload_n 1, 1) := by decide +kernel
theorem d325_3 : decode prog_13_method_112_code 3 = .ok (.invokevirtual 486, 3) := by decide +kernel
theorem k325_486_11 : xCa (xMo 325) 486 11 = some (1, 321, 2) := by decide +kernel
theorem n325_486 : xcn (xMo 325) 486 = some 2 := by decide +kernel
theorem d325_6 : decode prog_13_method_112_code 6 = .ok (.ifCond .eq 11, 3) := by decide +kernel
theorem d325_9 : decode prog_13_method_112_code 9 = .ok (.aload_n 0, 1) := by decide +kernel
theorem d325_10 : decode prog_13_method_112_code 10 = .ok (.iload_n 1, 1) := by decide +kernel
theorem d325_11 : decode prog_13_method_112_code 11 = .ok (.invokevirtual 493, 3) := by decide +kernel
theorem k325_493_11 : xCa (xMo 325) 493 11 = some (1, 326, 1) := by decide +kernel
theorem n325_493 : xcn (xMo 325) 493 = some 1 := by decide +kernel
theorem d325_14 : decode prog_13_method_112_code 14 = .ok (.goto 4, 3) := by decide +kernel
theorem d325_17 : decode prog_13_method_112_code 17 = .ok (.iconst 0, 1) := by decide +kernel
theorem d325_18 : decode prog_13_method_112_code 18 = .ok (.ireturn, 1) := by decide +kernel
set_option maxRecDepth 100000 in
theorem q326 : xMc 326 = prog_13_method_109_code := rfl
theorem m326 : xMl 326 = 3 ∧ xMret 326 = (some FieldType.int) ∧ xMh 326 = [] := by decide +kernel
theorem e326 {X : xX} {d : Nat} {w : xH} {Q : xO → xH → Prop} (a : Nat) (x0 : Int32) : Cw X d 326 [.ref a, .int x0] w Q = Wx X d 326 0 [some (.ref a), some (.int x0), none] [] w Q := by
  unfold Cw
  rw [m326.1]
  rfl
theorem d326_0 : decode prog_13_method_109_code 0 = .ok (.aload_n 0, 1) := by decide +kernel
theorem d326_1 : decode prog_13_method_109_code 1 = .ok (.invokevirtual 399, 3) := by decide +kernel
theorem k326_399_11 : xCa (xMo 326) 399 11 = some (1, 264, 0) := by decide +kernel
theorem n326_399 : xcn (xMo 326) 399 = some 0 := by decide +kernel
theorem d326_4 : decode prog_13_method_109_code 4 = .ok (.aload_n 0, 1) := by decide +kernel
theorem d326_5 : decode prog_13_method_109_code 5 = .ok (.iconst 0, 1) := by decide +kernel
theorem d326_6 : decode prog_13_method_109_code 6 = .ok (.putfield 428, 3) := by decide +kernel
theorem f326_428 : xFd (xMo 326) 428 = some (11, 49) := by decide +kernel
theorem d326_9 : decode prog_13_method_109_code 9 = .ok (.aload_n 0, 1) := by decide +kernel
theorem d326_10 : decode prog_13_method_109_code 10 = .ok (.iload_n 1, 1) := by decide +kernel
theorem d326_11 : decode prog_13_method_109_code 11 = .ok (.putfield 431, 3) := by decide +kernel
theorem f326_431 : xFd (xMo 326) 431 = some (11, 50) := by decide +kernel
theorem d326_14 : decode prog_13_method_109_code 14 = .ok (.aload_n 0, 1) := by decide +kernel
theorem d326_15 : decode prog_13_method_109_code 15 = .ok (.iload_n 1, 1) := by decide +kernel
theorem d326_16 : decode prog_13_method_109_code 16 = .ok (.iload_n 1, 1) := by decide +kernel
theorem d326_17 : decode prog_13_method_109_code 17 = .ok (.invokevirtual 477, 3) := by decide +kernel
theorem k326_477_11 : xCa (xMo 326) 477 11 = some (1, 323, 2) := by decide +kernel
theorem n326_477 : xcn (xMo 326) 477 = some 2 := by decide +kernel
theorem d326_20 : decode prog_13_method_109_code 20 = .ok (.istore_n 2, 1) := by decide +kernel
theorem d326_21 : decode prog_13_method_109_code 21 = .ok (.aload_n 0, 1) := by decide +kernel
theorem d326_22 : decode prog_13_method_109_code 22 = .ok (.invokevirtual 483, 3) := by decide +kernel
theorem k326_483_11 : xCa (xMo 326) 483 11 = some (1, 327, 0) := by decide +kernel
theorem n326_483 : xcn (xMo 326) 483 = some 0 := by decide +kernel
theorem d326_25 : decode prog_13_method_109_code 25 = .ok (.aload_n 0, 1) := by decide +kernel
theorem d326_26 : decode prog_13_method_109_code 26 = .ok (.invokevirtual 480, 3) := by decide +kernel
theorem k326_480_11 : xCa (xMo 326) 480 11 = some (1, 324, 0) := by decide +kernel
theorem n326_480 : xcn (xMo 326) 480 = some 0 := by decide +kernel
theorem d326_29 : decode prog_13_method_109_code 29 = .ok (.aload_n 0, 1) := by decide +kernel
theorem d326_30 : decode prog_13_method_109_code 30 = .ok (.iconst 1, 1) := by decide +kernel
theorem d326_31 : decode prog_13_method_109_code 31 = .ok (.invokevirtual 474, 3) := by decide +kernel
theorem k326_474_11 : xCa (xMo 326) 474 11 = some (1, 319, 1) := by decide +kernel
theorem n326_474 : xcn (xMo 326) 474 = some 1 := by decide +kernel
theorem d326_34 : decode prog_13_method_109_code 34 = .ok (.aload_n 0, 1) := by decide +kernel
theorem d326_35 : decode prog_13_method_109_code 35 = .ok (.invokevirtual 410, 3) := by decide +kernel
theorem k326_410_11 : xCa (xMo 326) 410 11 = some (1, 303, 0) := by decide +kernel
theorem n326_410 : xcn (xMo 326) 410 = some 0 := by decide +kernel
theorem d326_38 : decode prog_13_method_109_code 38 = .ok (.iload_n 2, 1) := by decide +kernel
theorem d326_39 : decode prog_13_method_109_code 39 = .ok (.ireturn, 1) := by decide +kernel
set_option maxRecDepth 100000 in
theorem q327 : xMc 327 = prog_13_method_107_code := rfl
theorem m327 : xMl 327 = 2 ∧ xMret 327 = none ∧ xMh 327 = [] := by decide +kernel
theorem e327 {X : xX} {d : Nat} {w : xH} {Q : xO → xH → Prop} (a : Nat) : Cw X d 327 [.ref a] w Q = Wx X d 327 0 [some (.ref a), none] [] w Q := by
  unfold Cw
  rw [m327.1]
  rfl
theorem d327_0 : decode prog_13_method_107_code 0 = .ok (.iconst 0, 1) := by decide +kernel
theorem d327_1 : decode prog_13_method_107_code 1 = .ok (.istore_n 1, 1) := by decide +kernel
theorem d327_2 : decode prog_13_method_107_code 2 = .ok (.iload_n 1, 1) := by decide +kernel
theorem d327_3 : decode prog_13_method_107_code 3 = .ok (.sipush 200, 3) := by decide +kernel
theorem d327_6 : decode prog_13_method_107_code 6 = .ok (.if_icmp .ge 26, 3) := by decide +kernel
theorem d327_9 : decode prog_13_method_107_code 9 = .ok (.aload_n 0, 1) := by decide +kernel
theorem d327_10 : decode prog_13_method_107_code 10 = .ok (.iload_n 1, 1) := by decide +kernel
theorem d327_11 : decode prog_13_method_107_code 11 = .ok (.invokevirtual 425, 3) := by decide +kernel
theorem k327_425_11 : xCa (xMo 327) 425 11 = some (1, 312, 1) := by decide +kernel
theorem n327_425 : xcn (xMo 327) 425 = some 1 := by decide +kernel
theorem d327_14 : decode prog_13_method_107_code 14 = .ok (.aload_n 0, 1) := by decide +kernel
theorem d327_15 : decode prog_13_method_107_code 15 = .ok (.getfield 431, 3) := by decide +kernel
theorem f327_431 : xFd (xMo 327) 431 = some (11, 50) := by decide +kernel
theorem d327_18 : decode prog_13_method_107_code 18 = .ok (.if_icmp .ne 8, 3) := by decide +kernel
theorem d327_21 : decode prog_13_method_107_code 21 = .ok (.aload_n 0, 1) := by decide +kernel
theorem d327_22 : decode prog_13_method_107_code 22 = .ok (.iload_n 1, 1) := by decide +kernel
theorem d327_23 : decode prog_13_method_107_code 23 = .ok (.invokevirtual 379, 3) := by decide +kernel
theorem k327_379_11 : xCa (xMo 327) 379 11 = some (1, 268, 1) := by decide +kernel
theorem n327_379 : xcn (xMo 327) 379 = some 1 := by decide +kernel
theorem d327_26 : decode prog_13_method_107_code 26 = .ok (.iinc 1 1, 3) := by decide +kernel
theorem d327_29 : decode prog_13_method_107_code 29 = .ok (.goto (-27), 3) := by decide +kernel
theorem d327_32 : decode prog_13_method_107_code 32 = .ok (.return_, 1) := by decide +kernel
set_option maxRecDepth 100000 in
theorem q328 : xMc 328 = prog_13_method_113_code := rfl
theorem m328 : xMl 328 = 2 ∧ xMret 328 = (some FieldType.int) ∧ xMh 328 = [] := by decide +kernel
theorem e328 {X : xX} {d : Nat} {w : xH} {Q : xO → xH → Prop} (a : Nat) (x0 : Int32) : Cw X d 328 [.ref a, .int x0] w Q = Wx X d 328 0 [some (.ref a), some (.int x0)] [] w Q := by
  unfold Cw
  rw [m328.1]
  rfl
theorem d328_0 : decode prog_13_method_113_code 0 = .ok (.aload_n 0, 1) := by decide +kernel
theorem d328_1 : decode prog_13_method_113_code 1 = .ok (.iconst 0, 1) := by decide +kernel
theorem d328_2 : decode prog_13_method_113_code 2 = .ok (.iload_n 1, 1) := by decide +kernel
theorem d328_3 : decode prog_13_method_113_code 3 = .ok (.invokevirtual 486, 3) := by decide +kernel
theorem k328_486_11 : xCa (xMo 328) 486 11 = some (1, 321, 2) := by decide +kernel
theorem n328_486 : xcn (xMo 328) 486 = some 2 := by decide +kernel
theorem d328_6 : decode prog_13_method_113_code 6 = .ok (.ifCond .eq 11, 3) := by decide +kernel
theorem d328_9 : decode prog_13_method_113_code 9 = .ok (.aload_n 0, 1) := by decide +kernel
theorem d328_10 : decode prog_13_method_113_code 10 = .ok (.iload_n 1, 1) := by decide +kernel
theorem d328_11 : decode prog_13_method_113_code 11 = .ok (.invokevirtual 490, 3) := by decide +kernel
theorem k328_490_11 : xCa (xMo 328) 490 11 = some (1, 322, 1) := by decide +kernel
theorem n328_490 : xcn (xMo 328) 490 = some 1 := by decide +kernel
theorem d328_14 : decode prog_13_method_113_code 14 = .ok (.goto 4, 3) := by decide +kernel
theorem d328_17 : decode prog_13_method_113_code 17 = .ok (.iconst 0, 1) := by decide +kernel
theorem d328_18 : decode prog_13_method_113_code 18 = .ok (.ireturn, 1) := by decide +kernel
set_option maxRecDepth 100000 in
theorem q329 : xMc 329 = prog_13_method_114_code := rfl
theorem m329 : xMl 329 = 2 ∧ xMret 329 = (some FieldType.int) ∧ xMh 329 = [] := by decide +kernel
theorem e329 {X : xX} {d : Nat} {w : xH} {Q : xO → xH → Prop} (a : Nat) (x0 : Int32) : Cw X d 329 [.ref a, .int x0] w Q = Wx X d 329 0 [some (.ref a), some (.int x0)] [] w Q := by
  unfold Cw
  rw [m329.1]
  rfl
theorem d329_0 : decode prog_13_method_114_code 0 = .ok (.aload_n 0, 1) := by decide +kernel
theorem d329_1 : decode prog_13_method_114_code 1 = .ok (.iconst 0, 1) := by decide +kernel
theorem d329_2 : decode prog_13_method_114_code 2 = .ok (.iload_n 1, 1) := by decide +kernel
theorem d329_3 : decode prog_13_method_114_code 3 = .ok (.invokevirtual 486, 3) := by decide +kernel
theorem k329_486_11 : xCa (xMo 329) 486 11 = some (1, 321, 2) := by decide +kernel
theorem n329_486 : xcn (xMo 329) 486 = some 2 := by decide +kernel
theorem d329_6 : decode prog_13_method_114_code 6 = .ok (.ifCond .eq 11, 3) := by decide +kernel
theorem d329_9 : decode prog_13_method_114_code 9 = .ok (.aload_n 0, 1) := by decide +kernel
theorem d329_10 : decode prog_13_method_114_code 10 = .ok (.iload_n 1, 1) := by decide +kernel
theorem d329_11 : decode prog_13_method_114_code 11 = .ok (.invokevirtual 493, 3) := by decide +kernel
theorem k329_493_11 : xCa (xMo 329) 493 11 = some (1, 326, 1) := by decide +kernel
theorem n329_493 : xcn (xMo 329) 493 = some 1 := by decide +kernel
theorem d329_14 : decode prog_13_method_114_code 14 = .ok (.goto 4, 3) := by decide +kernel
theorem d329_17 : decode prog_13_method_114_code 17 = .ok (.iconst 0, 1) := by decide +kernel
theorem d329_18 : decode prog_13_method_114_code 18 = .ok (.ireturn, 1) := by decide +kernel
set_option maxRecDepth 100000 in
theorem q330 : xMc 330 = prog_13_method_115_code := rfl
theorem m330 : xMl 330 = 1 ∧ xMret 330 = (some FieldType.int) ∧ xMh 330 = [] := by decide +kernel
theorem e330 {X : xX} {d : Nat} {w : xH} {Q : xO → xH → Prop} (a : Nat) : Cw X d 330 [.ref a] w Q = Wx X d 330 0 [some (.ref a)] [] w Q := by
  unfold Cw
  rw [m330.1]
  rfl
theorem d330_0 : decode prog_13_method_115_code 0 = .ok (.aload_n 0, 1) := by decide +kernel
theorem d330_1 : decode prog_13_method_115_code 1 = .ok (.aload_n 0, 1) := by decide +kernel
theorem d330_2 : decode prog_13_method_115_code 2 = .ok (.getfield 496, 3) := by decide +kernel
theorem f330_496 : xFd (xMo 330) 496 = some (11, 2) := by decide +kernel
theorem d330_5 : decode prog_13_method_115_code 5 = .ok (.invokevirtual 395, 3) := by decide +kernel
theorem k330_395_11 : xCa (xMo 330) 395 11 = some (1, 263, 1) := by decide +kernel
theorem n330_395 : xcn (xMo 330) 395 = some 1 := by decide +kernel
theorem d330_8 : decode prog_13_method_115_code 8 = .ok (.ifCond .ne 5, 3) := by decide +kernel
theorem d330_11 : decode prog_13_method_115_code 11 = .ok (.iconst 0, 1) := by decide +kernel
theorem d330_12 : decode prog_13_method_115_code 12 = .ok (.ireturn, 1) := by decide +kernel
theorem d330_13 : decode prog_13_method_115_code 13 = .ok (.aload_n 0, 1) := by decide +kernel
theorem d330_14 : decode prog_13_method_115_code 14 = .ok (.invokevirtual 399, 3) := by decide +kernel
theorem k330_399_11 : xCa (xMo 330) 399 11 = some (1, 264, 0) := by decide +kernel
theorem n330_399 : xcn (xMo 330) 399 = some 0 := by decide +kernel
theorem d330_17 : decode prog_13_method_115_code 17 = .ok (.aload_n 0, 1) := by decide +kernel
theorem d330_18 : decode prog_13_method_115_code 18 = .ok (.getfield 13, 3) := by decide +kernel
theorem f330_13 : xFd (xMo 330) 13 = some (11, 1) := by decide +kernel
theorem d330_21 : decode prog_13_method_115_code 21 = .ok (.aload_n 0, 1) := by decide +kernel
theorem d330_22 : decode prog_13_method_115_code 22 = .ok (.getfield 7, 3) := by decide +kernel
theorem f330_7 : xFd (xMo 330) 7 = some (11, 0) := by decide +kernel
theorem d330_25 : decode prog_13_method_115_code 25 = .ok (.invokestatic 95, 3) := by decide +kernel
theorem k330_95_99 : xCa (xMo 330) 95 99 = some (0, 266, 2) := by decide +kernel
theorem d330_28 : decode prog_13_method_115_code 28 = .ok (.aload_n 0, 1) := by decide +kernel
theorem d330_29 : decode prog_13_method_115_code 29 = .ok (.invokevirtual 261, 3) := by decide +kernel
theorem k330_261_11 : xCa (xMo 330) 261 11 = some (1, 271, 0) := by decide +kernel
theorem n330_261 : xcn (xMo 330) 261 = some 0 := by decide +kernel
theorem d330_32 : decode prog_13_method_115_code 32 = .ok (.sipush 200, 3) := by decide +kernel
theorem d330_35 : decode prog_13_method_115_code 35 = .ok (.aload_n 0, 1) := by decide +kernel
theorem d330_36 : decode prog_13_method_115_code 36 = .ok (.iconst 0, 1) := by decide +kernel
theorem d330_37 : decode prog_13_method_115_code 37 = .ok (.invokevirtual 273, 3) := by decide +kernel
theorem k330_273_11 : xCa (xMo 330) 273 11 = some (1, 304, 1) := by decide +kernel
theorem n330_273 : xcn (xMo 330) 273 = some 1 := by decide +kernel
theorem d330_40 : decode prog_13_method_115_code 40 = .ok (.isub, 1) := by decide +kernel
theorem d330_41 : decode prog_13_method_115_code 41 = .ok (.ireturn, 1) := by decide +kernel
set_option maxRecDepth 100000 in
theorem q331 : xMc 331 = prog_13_method_116_code := rfl
theorem m331 : xMl 331 = 1 ∧ xMret 331 = (some FieldType.int) ∧ xMh 331 = [] := by decide +kernel
theorem e331 {X : xX} {d : Nat} {w : xH} {Q : xO → xH → Prop} (a : Nat) : Cw X d 331 [.ref a] w Q = Wx X d 331 0 [some (.ref a)] [] w Q := by
  unfold Cw
  rw [m331.1]
  rfl
theorem d331_0 : decode prog_13_method_116_code 0 = .ok (.aload_n 0, 1) := by decide +kernel
theorem d331_1 : decode prog_13_method_116_code 1 = .ok (.iconst 0, 1) := by decide +kernel
theorem d331_2 : decode prog_13_method_116_code 2 = .ok (.putfield 87, 3) := by decide +kernel
theorem f331_87 : xFd (xMo 331) 87 = some (11, 11) := by decide +kernel
theorem d331_5 : decode prog_13_method_116_code 5 = .ok (.aload_n 0, 1) := by decide +kernel
theorem d331_6 : decode prog_13_method_116_code 6 = .ok (.iconst 1, 1) := by decide +kernel
theorem d331_7 : decode prog_13_method_116_code 7 = .ok (.putfield 496, 3) := by decide +kernel
theorem f331_496 : xFd (xMo 331) 496 = some (11, 2) := by decide +kernel
theorem d331_10 : decode prog_13_method_116_code 10 = .ok (.aload_n 0, 1) := by decide +kernel
theorem d331_11 : decode prog_13_method_116_code 11 = .ok (.getfield 7, 3) := by decide +kernel
theorem f331_7 : xFd (xMo 331) 7 = some (11, 0) := by decide +kernel
theorem d331_14 : decode prog_13_method_116_code 14 = .ok (.aload_n 0, 1) := by decide +kernel
theorem d331_15 : decode prog_13_method_116_code 15 = .ok (.getfield 13, 3) := by decide +kernel
theorem f331_13 : xFd (xMo 331) 13 = some (11, 1) := by decide +kernel
theorem d331_18 : decode prog_13_method_116_code 18 = .ok (.invokestatic 95, 3) := by decide +kernel
theorem k331_95_99 : xCa (xMo 331) 95 99 = some (0, 266, 2) := by decide +kernel
theorem d331_21 : decode prog_13_method_116_code 21 = .ok (.sipush 200, 3) := by decide +kernel
theorem d331_24 : decode prog_13_method_116_code 24 = .ok (.aload_n 0, 1) := by decide +kernel
theorem d331_25 : decode prog_13_method_116_code 25 = .ok (.iconst 0, 1) := by decide +kernel
theorem d331_26 : decode prog_13_method_116_code 26 = .ok (.invokevirtual 273, 3) := by decide +kernel
theorem k331_273_11 : xCa (xMo 331) 273 11 = some (1, 304, 1) := by decide +kernel
theorem n331_273 : xcn (xMo 331) 273 = some 1 := by decide +kernel
theorem d331_29 : decode prog_13_method_116_code 29 = .ok (.isub, 1) := by decide +kernel
theorem d331_30 : decode prog_13_method_116_code 30 = .ok (.ireturn, 1) := by decide +kernel
set_option maxRecDepth 100000 in
theorem q332 : xMc 332 = prog_13_method_117_code := rfl
theorem m332 : xMl 332 = 1 ∧ xMret 332 = (some FieldType.int) ∧ xMh 332 = [] := by decide +kernel
theorem e332 {X : xX} {d : Nat} {w : xH} {Q : xO → xH → Prop} (a : Nat) : Cw X d 332 [.ref a] w Q = Wx X d 332 0 [some (.ref a)] [] w Q := by
  unfold Cw
  rw [m332.1]
  rfl
theorem d332_0 : decode prog_13_method_117_code 0 = .ok (.aload_n 0, 1) := by decide +kernel
theorem d332_1 : decode prog_13_method_117_code 1 = .ok (.aload_n 0, 1) := by decide +kernel
theorem d332_2 : decode prog_13_method_117_code 2 = .ok (.getfield 99, 3) := by decide +kernel
theorem f332_99 : xFd (xMo 332) 99 = some (11, 8) := by decide +kernel
theorem d332_5 : decode prog_13_method_117_code 5 = .ok (.ifCond .le 7, 3) := by decide +kernel
theorem d332_8 : decode prog_13_method_117_code 8 = .ok (.iconst 1, 1) := by decide +kernel
theorem d332_9 : decode prog_13_method_117_code 9 = .ok (.goto 4, 3) := by decide +kernel
theorem d332_12 : decode prog_13_method_117_code 12 = .ok (.iconst 0, 1) := by decide +kernel
theorem d332_13 : decode prog_13_method_117_code 13 = .ok (.invokevirtual 395, 3) := by decide +kernel
theorem k332_395_11 : xCa (xMo 332) 395 11 = some (1, 263, 1) := by decide +kernel
theorem n332_395 : xcn (xMo 332) 395 = some 1 := by decide +kernel
theorem d332_16 : decode prog_13_method_117_code 16 = .ok (.ifCond .ne 5, 3) := by decide +kernel
theorem d332_19 : decode prog_13_method_117_code 19 = .ok (.iconst 0, 1) := by decide +kernel
theorem d332_20 : decode prog_13_method_117_code 20 = .ok (.ireturn, 1) := by decide +kernel
theorem d332_21 : decode prog_13_method_117_code 21 = .ok (.aload_n 0, 1) := by decide +kernel
theorem d332_22 : decode prog_13_method_117_code 22 = .ok (.dup, 1) := by decide +kernel
theorem d332_23 : decode prog_13_method_117_code 23 = .ok (.getfield 99, 3) := by decide +kernel
theorem d332_26 : decode prog_13_method_117_code 26 = .ok (.iconst 1, 1) := by decide +kernel
theorem d332_27 : decode prog_13_method_117_code 27 = .ok (.isub, 1) := by decide +kernel
theorem d332_28 : decode prog_13_method_117_code 28 = .ok (.putfield 99, 3) := by decide +kernel
theorem d332_31 : decode prog_13_method_117_code 31 = .ok (.aload_n 0, 1) := by decide +kernel
theorem d332_32 : decode prog_13_method_117_code 32 = .ok (.aload_n 0, 1) := by decide +kernel
theorem d332_33 : decode prog_13_method_117_code 33 = .ok (.getfield 102, 3) := by decide +kernel
theorem f332_102 : xFd (xMo 332) 102 = some (11, 7) := by decide +kernel
theorem d332_36 : decode prog_13_method_117_code 36 = .ok (.aload_n 0, 1) := by decide +kernel
theorem d332_37 : decode prog_13_method_117_code 37 = .ok (.getfield 99, 3) := by decide +kernel
theorem d332_40 : decode prog_13_method_117_code 40 = .ok (.iadd, 1) := by decide +kernel
theorem d332_41 : decode prog_13_method_117_code 41 = .ok (.iconst 4, 1) := by decide +kernel
theorem d332_42 : decode prog_13_method_117_code 42 = .ok (.irem, 1) := by decide +kernel
theorem d332_43 : decode prog_13_method_117_code 43 = .ok (.invokevirtual 499, 3) := by decide +kernel
theorem k332_499_11 : xCa (xMo 332) 499 11 = some (1, 333, 1) := by decide +kernel
theorem n332_499 : xcn (xMo 332) 499 = some 1 := by decide +kernel
theorem d332_46 : decode prog_13_method_117_code 46 = .ok (.aload_n 0, 1) := by decide +kernel
theorem d332_47 : decode prog_13_method_117_code 47 = .ok (.invokevirtual 261, 3) := by decide +kernel
theorem k332_261_11 : xCa (xMo 332) 261 11 = some (1, 271, 0) := by decide +kernel
theorem n332_261 : xcn (xMo 332) 261 = some 0 := by decide +kernel
theorem d332_50 : decode prog_13_method_117_code 50 = .ok (.aload_n 0, 1) := by decide +kernel
theorem d332_51 : decode prog_13_method_117_code 51 = .ok (.getfield 99, 3) := by decide +kernel
theorem d332_54 : decode prog_13_method_117_code 54 = .ok (.ireturn, 1) := by decide +kernel
set_option maxRecDepth 100000 in
theorem q333 : xMc 333 = prog_13_method_9_code := rfl
theorem m333 : xMl 333 = 2 ∧ xMret 333 = none ∧ xMh 333 = [] := by decide +kernel
theorem e333 {X : xX} {d : Nat} {w : xH} {Q : xO → xH → Prop} (a : Nat) (x0 : Int32) : Cw X d 333 [.ref a, .int x0] w Q = Wx X d 333 0 [some (.ref a), some (.int x0)] [] w Q := by
  unfold Cw
  rw [m333.1]
  rfl
theorem d333_0 : decode prog_13_method_9_code 0 = .ok (.iload_n 1, 1) := by decide +kernel
theorem d333_1 : decode prog_13_method_9_code 1 = .ok (.tableswitch 69 0 2 #[27, 41, 55], 27) := by decide +kernel
theorem d333_28 : decode prog_13_method_9_code 28 = .ok (.aload_n 0, 1) := by decide +kernel
theorem d333_29 : decode prog_13_method_9_code 29 = .ok (.getfield 16, 3) := by decide +kernel
theorem f333_16 : xFd (xMo 333) 16 = some (11, 3) := by decide +kernel
theorem d333_32 : decode prog_13_method_9_code 32 = .ok (.aload_n 0, 1) := by decide +kernel
theorem d333_33 : decode prog_13_method_9_code 33 = .ok (.getfield 7, 3) := by decide +kernel
theorem f333_7 : xFd (xMo 333) 7 = some (11, 0) := by decide +kernel
theorem d333_36 : decode prog_13_method_9_code 36 = .ok (.invokestatic 95, 3) := by decide +kernel
theorem k333_95_99 : xCa (xMo 333) 95 99 = some (0, 266, 2) := by decide +kernel
theorem d333_39 : decode prog_13_method_9_code 39 = .ok (.goto 42, 3) := by decide +kernel
theorem d333_42 : decode prog_13_method_9_code 42 = .ok (.aload_n 0, 1) := by decide +kernel
theorem d333_43 : decode prog_13_method_9_code 43 = .ok (.getfield 19, 3) := by decide +kernel
theorem f333_19 : xFd (xMo 333) 19 = some (11, 4) := by decide +kernel
theorem d333_46 : decode prog_13_method_9_code 46 = .ok (.aload_n 0, 1) := by decide +kernel
theorem d333_47 : decode prog_13_method_9_code 47 = .ok (.getfield 7, 3) := by decide +kernel
theorem d333_50 : decode prog_13_method_9_code 50 = .ok (.invokestatic 95, 3) := by decide +kernel
theorem d333_53 : decode prog_13_method_9_code 53 = .ok (.goto 28, 3) := by decide +kernel
theorem d333_56 : decode prog_13_method_9_code 56 = .ok (.aload_n 0, 1) := by decide +kernel
theorem d333_57 : decode prog_13_method_9_code 57 = .ok (.getfield 22, 3) := by decide +kernel
theorem f333_22 : xFd (xMo 333) 22 = some (11, 5) := by decide +kernel
theorem d333_60 : decode prog_13_method_9_code 60 = .ok (.aload_n 0, 1) := by decide +kernel
theorem d333_61 : decode prog_13_method_9_code 61 = .ok (.getfield 7, 3) := by decide +kernel
theorem d333_64 : decode prog_13_method_9_code 64 = .ok (.invokestatic 95, 3) := by decide +kernel
theorem d333_67 : decode prog_13_method_9_code 67 = .ok (.goto 14, 3) := by decide +kernel
theorem d333_70 : decode prog_13_method_9_code 70 = .ok (.aload_n 0, 1) := by decide +kernel
theorem d333_71 : decode prog_13_method_9_code 71 = .ok (.getfield 25, 3) := by decide +kernel
theorem f333_25 : xFd (xMo 333) 25 = some (11, 6) := by decide +kernel
theorem d333_74 : decode prog_13_method_9_code 74 = .ok (.aload_n 0, 1) := by decide +kernel
theorem d333_75 : decode prog_13_method_9_code 75 = .ok (.getfield 7, 3) := by decide +kernel
theorem d333_78 : decode prog_13_method_9_code 78 = .ok (.invokestatic 95, 3) := by decide +kernel
theorem d333_81 : decode prog_13_method_9_code 81 = .ok (.return_, 1) := by decide +kernel
set_option maxRecDepth 100000 in
theorem q334 : xMc 334 = prog_13_method_119_code := rfl
theorem m334 : xMl 334 = 2 ∧ xMret 334 = (some FieldType.boolean) ∧ xMh 334 = [] := by decide +kernel
theorem e334 {X : xX} {d : Nat} {w : xH} {Q : xO → xH → Prop} (a : Nat) (x0 : Int32) : Cw X d 334 [.ref a, .int x0] w Q = Wx X d 334 0 [some (.ref a), some (.int x0)] [] w Q := by
  unfold Cw
  rw [m334.1]
  rfl
theorem d334_0 : decode prog_13_method_119_code 0 = .ok (.aload_n 0, 1) := by decide +kernel
theorem d334_1 : decode prog_13_method_119_code 1 = .ok (.iload_n 1, 1) := by decide +kernel
theorem d334_2 : decode prog_13_method_119_code 2 = .ok (.invokestatic 392, 3) := by decide +kernel
theorem k334_392_99 : xCa (xMo 334) 392 99 = some (0, 262, 1) := by decide +kernel
theorem d334_5 : decode prog_13_method_119_code 5 = .ok (.invokevirtual 395, 3) := by decide +kernel
theorem k334_395_11 : xCa (xMo 334) 395 11 = some (1, 263, 1) := by decide +kernel
theorem n334_395 : xcn (xMo 334) 395 = some 1 := by decide +kernel
theorem d334_8 : decode prog_13_method_119_code 8 = .ok (.ifCond .eq 16, 3) := by decide +kernel
theorem d334_11 : decode prog_13_method_119_code 11 = .ok (.aload_n 0, 1) := by decide +kernel
theorem d334_12 : decode prog_13_method_119_code 12 = .ok (.iload_n 1, 1) := by decide +kernel
theorem d334_13 : decode prog_13_method_119_code 13 = .ok (.iconst 0, 1) := by decide +kernel
theorem d334_14 : decode prog_13_method_119_code 14 = .ok (.invokevirtual 133, 3) := by decide +kernel
theorem k334_133_11 : xCa (xMo 334) 133 11 = some (1, 219, 2) := by decide +kernel
theorem n334_133 : xcn (xMo 334) 133 = some 2 := by decide +kernel
theorem d334_17 : decode prog_13_method_119_code 17 = .ok (.ifCond .eq 7, 3) := by decide +kernel
theorem d334_20 : decode prog_13_method_119_code 20 = .ok (.iconst 1, 1) := by decide +kernel
theorem d334_21 : decode prog_13_method_119_code 21 = .ok (.goto 4, 3) := by decide +kernel
theorem d334_24 : decode prog_13_method_119_code 24 = .ok (.iconst 0, 1) := by decide +kernel
theorem d334_25 : decode prog_13_method_119_code 25 = .ok (.ireturn, 1) := by decide +kernel
set_option maxRecDepth 100000 in
theorem q335 : xMc 335 = prog_13_method_120_code := rfl
theorem m335 : xMl 335 = 2 ∧ xMret 335 = (some FieldType.boolean) ∧ xMh 335 = [] := by decide +kernel
theorem e335 {X : xX} {d : Nat} {w : xH} {Q : xO → xH → Prop} (a : Nat) (x0 : Int32) : Cw X d 335 [.ref a, .int x0] w Q = Wx X d 335 0 [some (.ref a), some (.int x0)] [] w Q := by
  unfold Cw
  rw [m335.1]
  rfl
theorem d335_0 : decode prog_13_method_120_code 0 = .ok (.aload_n 0, 1) := by decide +kernel
theorem d335_1 : decode prog_13_method_120_code 1 = .ok (.iload_n 1, 1) := by decide +kernel
theorem d335_2 : decode prog_13_method_120_code 2 = .ok (.invokestatic 392, 3) := by decide +kernel
theorem k335_392_99 : xCa (xMo 335) 392 99 = some (0, 262, 1) := by decide +kernel
theorem d335_5 : decode prog_13_method_120_code 5 = .ok (.invokevirtual 395, 3) := by decide +kernel
theorem k335_395_11 : xCa (xMo 335) 395 11 = some (1, 263, 1) := by decide +kernel
theorem n335_395 : xcn (xMo 335) 395 = some 1 := by decide +kernel
theorem d335_8 : decode prog_13_method_120_code 8 = .ok (.ifCond .eq 16, 3) := by decide +kernel
theorem d335_11 : decode prog_13_method_120_code 11 = .ok (.aload_n 0, 1) := by decide +kernel
theorem d335_12 : decode prog_13_method_120_code 12 = .ok (.iload_n 1, 1) := by decide +kernel
theorem d335_13 : decode prog_13_method_120_code 13 = .ok (.iconst 2, 1) := by decide +kernel
theorem d335_14 : decode prog_13_method_120_code 14 = .ok (.invokevirtual 133, 3) := by decide +kernel
theorem k335_133_11 : xCa (xMo 335) 133 11 = some (1, 219, 2) := by decide +kernel
theorem n335_133 : xcn (xMo 335) 133 = some 2 := by decide +kernel
theorem d335_17 : decode prog_13_method_120_code 17 = .ok (.ifCond .eq 7, 3) := by decide +kernel
theorem d335_20 : decode prog_13_method_120_code 20 = .ok (.iconst 1, 1) := by decide +kernel
theorem d335_21 : decode prog_13_method_120_code 21 = .ok (.goto 4, 3) := by decide +kernel
theorem d335_24 : decode prog_13_method_120_code 24 = .ok (.iconst 0, 1) := by decide +kernel
theorem d335_25 : decode prog_13_method_120_code 25 = .ok (.ireturn, 1) := by decide +kernel
set_option maxRecDepth 100000 in
theorem q336 : xMc 336 = prog_13_method_121_code := rfl
theorem m336 : xMl 336 = 2 ∧ xMret 336 = (some FieldType.boolean) ∧ xMh 336 = [] := by decide +kernel
theorem e336 {X : xX} {d : Nat} {w : xH} {Q : xO → xH → Prop} (a : Nat) (x0 : Int32) : Cw X d 336 [.ref a, .int x0] w Q = Wx X d 336 0 [some (.ref a), some (.int x0)] [] w Q := by
  unfold Cw
  rw [m336.1]
  rfl
theorem d336_0 : decode prog_13_method_121_code 0 = .ok (.aload_n 0, 1) := by decide +kernel
theorem d336_1 : decode prog_13_method_121_code 1 = .ok (.iload_n 1, 1) := by decide +kernel
theorem d336_2 : decode prog_13_method_121_code 2 = .ok (.iconst 0, 1) := by decide +kernel
theorem d336_3 : decode prog_13_method_121_code 3 = .ok (.invokevirtual 502, 3) := by decide +kernel
theorem k336_502_11 : xCa (xMo 336) 502 11 = some (1, 337, 2) := by decide +kernel
theorem n336_502 : xcn (xMo 336) 502 = some 2 := by decide +kernel
theorem d336_6 : decode prog_13_method_121_code 6 = .ok (.ireturn, 1) := by decide +kernel
set_option maxRecDepth 100000 in
theorem q337 : xMc 337 = prog_13_method_118_code := rfl
theorem m337 : xMl 337 = 3 ∧ xMret 337 = (some FieldType.boolean) ∧ xMh 337 = [] := by decide +kernel
theorem e337 {X : xX} {d : Nat} {w : xH} {Q : xO → xH → Prop} (a : Nat) (x0 : Int32) (x1 : Int32) : Cw X d 337 [.ref a, .int x0, .int x1] w Q = Wx X d 337 0 [some (.ref a), some (.int x0), some (.int x1)] [] w Q := by
  unfold Cw
  rw [m337.1]
  rfl
theorem d337_0 : decode prog_13_method_118_code 0 = .ok (.aload_n 0, 1) := by decide +kernel
theorem d337_1 : decode prog_13_method_118_code 1 = .ok (.iload_n 1, 1) := by decide +kernel
theorem d337_2 : decode prog_13_method_118_code 2 = .ok (.invokestatic 392, 3) := by decide +kernel
theorem k337_392_99 : xCa (xMo 337) 392 99 = some (0, 262, 1) := by decide +kernel
theorem d337_5 : decode prog_13_method_118_code 5 = .ok (.invokevirtual 395, 3) := by decide +kernel
theorem k337_395_11 : xCa (xMo 337) 395 11 = some (1, 263, 1) := by decide +kernel
theorem n337_395 : xcn (xMo 337) 395 = some 1 := by decide +kernel
theorem d337_8 : decode prog_13_method_118_code 8 = .ok (.ifCond .eq 17, 3) := by decide +kernel
theorem d337_11 : decode prog_13_method_118_code 11 = .ok (.aload_n 0, 1) := by decide +kernel
theorem d337_12 : decode prog_13_method_118_code 12 = .ok (.getfield 47, 3) := by decide +kernel
theorem f337_47 : xFd (xMo 337) 47 = some (11, 17) := by decide +kernel
theorem d337_15 : decode prog_13_method_118_code 15 = .ok (.iload_n 1, 1) := by decide +kernel
theorem d337_16 : decode prog_13_method_118_code 16 = .ok (.iaload, 1) := by decide +kernel
theorem d337_17 : decode prog_13_method_118_code 17 = .ok (.iload_n 2, 1) := by decide +kernel
theorem d337_18 : decode prog_13_method_118_code 18 = .ok (.if_icmp .ne 7, 3) := by decide +kernel
theorem d337_21 : decode prog_13_method_118_code 21 = .ok (.iconst 1, 1) := by decide +kernel
theorem d337_22 : decode prog_13_method_118_code 22 = .ok (.goto 4, 3) := by decide +kernel
theorem d337_25 : decode prog_13_method_118_code 25 = .ok (.iconst 0, 1) := by decide +kernel
theorem d337_26 : decode prog_13_method_118_code 26 = .ok (.ireturn, 1) := by decide +kernel
set_option maxRecDepth 100000 in
theorem q338 : xMc 338 = prog_13_method_123_code := rfl
theorem m338 : xMl 338 = 2 ∧ xMret 338 = (some FieldType.int) ∧ xMh 338 = [] := by decide +kernel
theorem e338 {X : xX} {d : Nat} {w : xH} {Q : xO → xH → Prop} (a : Nat) (x0 : Int32) : Cw X d 338 [.ref a, .int x0] w Q = Wx X d 338 0 [some (.ref a), some (.int x0)] [] w Q := by
  unfold Cw
  rw [m338.1]
  rfl
theorem d338_0 : decode prog_13_method_123_code 0 = .ok (.aload_n 0, 1) := by decide +kernel
theorem d338_1 : decode prog_13_method_123_code 1 = .ok (.iload_n 1, 1) := by decide +kernel
theorem d338_2 : decode prog_13_method_123_code 2 = .ok (.invokevirtual 505, 3) := by decide +kernel
theorem k338_505_11 : xCa (xMo 338) 505 11 = some (1, 339, 1) := by decide +kernel
theorem n338_505 : xcn (xMo 338) 505 = some 1 := by decide +kernel
theorem d338_5 : decode prog_13_method_123_code 5 = .ok (.ireturn, 1) := by decide +kernel
set_option maxRecDepth 100000 in
theorem q339 : xMc 339 = prog_13_method_122_code := rfl
theorem m339 : xMl 339 = 2 ∧ xMret 339 = (some FieldType.int) ∧ xMh 339 = [] := by decide +kernel
theorem e339 {X : xX} {d : Nat} {w : xH} {Q : xO → xH → Prop} (a : Nat) (x0 : Int32) : Cw X d 339 [.ref a, .int x0] w Q = Wx X d 339 0 [some (.ref a), some (.int x0)] [] w Q := by
  unfold Cw
  rw [m339.1]
  rfl
theorem d339_0 : decode prog_13_method_122_code 0 = .ok (.aload_n 0, 1) := by decide +kernel
theorem d339_1 : decode prog_13_method_122_code 1 = .ok (.iload_n 1, 1) := by decide +kernel
theorem d339_2 : decode prog_13_method_122_code 2 = .ok (.invokestatic 392, 3) := by decide +kernel
theorem k339_392_99 : xCa (xMo 339) 392 99 = some (0, 262, 1) := by decide +kernel
theorem d339_5 : decode prog_13_method_122_code 5 = .ok (.invokevirtual 395, 3) := by decide +kernel
theorem k339_395_11 : xCa (xMo 339) 395 11 = some (1, 263, 1) := by decide +kernel
theorem n339_395 : xcn (xMo 339) 395 = some 1 := by decide +kernel
theorem d339_8 : decode prog_13_method_122_code 8 = .ok (.ifCond .ne 5, 3) := by decide +kernel
theorem d339_11 : decode prog_13_method_122_code 11 = .ok (.iconst 0, 1) := by decide +kernel
theorem d339_12 : decode prog_13_method_122_code 12 = .ok (.ireturn, 1) := by decide +kernel
theorem d339_13 : decode prog_13_method_122_code 13 = .ok (.aload_n 0, 1) := by decide +kernel
theorem d339_14 : decode prog_13_method_122_code 14 = .ok (.getfield 47, 3) := by decide +kernel
theorem f339_47 : xFd (xMo 339) 47 = some (11, 17) := by decide +kernel
theorem d339_17 : decode prog_13_method_122_code 17 = .ok (.iload_n 1, 1) := by decide +kernel
theorem d339_18 : decode prog_13_method_122_code 18 = .ok (.iaload, 1) := by decide +kernel
theorem d339_19 : decode prog_13_method_122_code 19 = .ok (.ifCond .le 11, 3) := by decide +kernel
theorem d339_22 : decode prog_13_method_122_code 22 = .ok (.aload_n 0, 1) := by decide +kernel
theorem d339_23 : decode prog_13_method_122_code 23 = .ok (.iconst 2, 1) := by decide +kernel
theorem d339_24 : decode prog_13_method_122_code 24 = .ok (.invokevirtual 382, 3) := by decide +kernel
theorem k339_382_11 : xCa (xMo 339) 382 11 = some (1, 233, 1) := by decide +kernel
theorem n339_382 : xcn (xMo 339) 382 = some 1 := by decide +kernel
theorem d339_27 : decode prog_13_method_122_code 27 = .ok (.goto 9, 3) := by decide +kernel
theorem d339_30 : decode prog_13_method_122_code 30 = .ok (.aload_n 0, 1) := by decide +kernel
theorem d339_31 : decode prog_13_method_122_code 31 = .ok (.getfield 44, 3) := by decide +kernel
theorem f339_44 : xFd (xMo 339) 44 = some (11, 16) := by decide +kernel
theorem d339_34 : decode prog_13_method_122_code 34 = .ok (.iload_n 1, 1) := by decide +kernel
theorem d339_35 : decode prog_13_method_122_code 35 = .ok (.iaload, 1) := by decide +kernel
theorem d339_36 : decode prog_13_method_122_code 36 = .ok (.ireturn, 1) := by decide +kernel
set_option maxRecDepth 100000 in
theorem q340 : xMc 340 = prog_13_method_124_code := rfl
theorem m340 : xMl 340 = 2 ∧ xMret 340 = (some FieldType.int) ∧ xMh 340 = [] := by decide +kernel
theorem e340 {X : xX} {d : Nat} {w : xH} {Q : xO → xH → Prop} (a : Nat) (x0 : Int32) : Cw X d 340 [.ref a, .int x0] w Q = Wx X d 340 0 [some (.ref a), some (.int x0)] [] w Q := by
  unfold Cw
  rw [m340.1]
  rfl
theorem d340_0 : decode prog_13_method_124_code 0 = .ok (.aload_n 0, 1) := by decide +kernel
theorem d340_1 : decode prog_13_method_124_code 1 = .ok (.iload_n 1, 1) := by decide +kernel
theorem d340_2 : decode prog_13_method_124_code 2 = .ok (.invokevirtual 505, 3) := by decide +kernel
theorem k340_505_11 : xCa (xMo 340) 505 11 = some (1, 339, 1) := by decide +kernel
theorem n340_505 : xcn (xMo 340) 505 = some 1 := by decide +kernel
theorem d340_5 : decode prog_13_method_124_code 5 = .ok (.ireturn, 1) := by decide +kernel
set_option maxRecDepth 100000 in
theorem q341 : xMc 341 = prog_13_method_125_code := rfl
theorem m341 : xMl 341 = 2 ∧ xMret 341 = (some FieldType.boolean) ∧ xMh 341 = [] := by decide +kernel
theorem e341 {X : xX} {d : Nat} {w : xH} {Q : xO → xH → Prop} (a : Nat) (x0 : Int32) : Cw X d 341 [.ref a, .int x0] w Q = Wx X d 341 0 [some (.ref a), some (.int x0)] [] w Q := by
  unfold Cw
  rw [m341.1]
  rfl
theorem d341_0 : decode prog_13_method_125_code 0 = .ok (.aload_n 0, 1) := by decide +kernel
theorem d341_1 : decode prog_13_method_125_code 1 = .ok (.iload_n 1, 1) := by decide +kernel
theorem d341_2 : decode prog_13_method_125_code 2 = .ok (.iconst 1, 1) := by decide +kernel
theorem d341_3 : decode prog_13_method_125_code 3 = .ok (.invokevirtual 502, 3) := by decide +kernel
theorem k341_502_11 : xCa (xMo 341) 502 11 = some (1, 337, 2) := by decide +kernel
theorem n341_502 : xcn (xMo 341) 502 = some 2 := by decide +kernel
theorem d341_6 : decode prog_13_method_125_code 6 = .ok (.ireturn, 1) := by decide +kernel
set_option maxRecDepth 100000 in
theorem q342 : xMc 342 = prog_13_method_126_code := rfl
theorem m342 : xMl 342 = 2 ∧ xMret 342 = (some FieldType.boolean) ∧ xMh 342 = [] := by decide +kernel
theorem e342 {X : xX} {d : Nat} {w : xH} {Q : xO → xH → Prop} (a : Nat) (x0 : Int32) : Cw X d 342 [.ref a, .int x0] w Q = Wx X d 342 0 [some (.ref a), some (.int x0)] [] w Q := by
  unfold Cw
  rw [m342.1]
  rfl
theorem d342_0 : decode prog_13_method_126_code 0 = .ok (.aload_n 0, 1) := by decide +kernel
theorem d342_1 : decode prog_13_method_126_code 1 = .ok (.iload_n 1, 1) := by decide +kernel
theorem d342_2 : decode prog_13_method_126_code 2 = .ok (.iconst 2, 1) := by decide +kernel
theorem d342_3 : decode prog_13_method_126_code 3 = .ok (.invokevirtual 502, 3) := by decide +kernel
theorem k342_502_11 : xCa (xMo 342) 502 11 = some (1, 337, 2) := by decide +kernel
theorem n342_502 : xcn (xMo 342) 502 = some 2 := by decide +kernel
theorem d342_6 : decode prog_13_method_126_code 6 = .ok (.ireturn, 1) := by decide +kernel
set_option maxRecDepth 100000 in
theorem q343 : xMc 343 = prog_13_method_127_code := rfl
theorem m343 : xMl 343 = 2 ∧ xMret 343 = (some FieldType.boolean) ∧ xMh 343 = [] := by decide +kernel
theorem e343 {X : xX} {d : Nat} {w : xH} {Q : xO → xH → Prop} (a : Nat) (x0 : Int32) : Cw X d 343 [.ref a, .int x0] w Q = Wx X d 343 0 [some (.ref a), some (.int x0)] [] w Q := by
  unfold Cw
  rw [m343.1]
  rfl
theorem d343_0 : decode prog_13_method_127_code 0 = .ok (.aload_n 0, 1) := by decide +kernel
theorem d343_1 : decode prog_13_method_127_code 1 = .ok (.iload_n 1, 1) := by decide +kernel
theorem d343_2 : decode prog_13_method_127_code 2 = .ok (.iconst 3, 1) := by decide +kernel
theorem d343_3 : decode prog_13_method_127_code 3 = .ok (.invokevirtual 502, 3) := by decide +kernel
theorem k343_502_11 : xCa (xMo 343) 502 11 = some (1, 337, 2) := by decide +kernel
theorem n343_502 : xcn (xMo 343) 502 = some 2 := by decide +kernel
theorem d343_6 : decode prog_13_method_127_code 6 = .ok (.ireturn, 1) := by decide +kernel
set_option maxRecDepth 100000 in
theorem q344 : xMc 344 = prog_13_method_128_code := rfl
theorem m344 : xMl 344 = 2 ∧ xMret 344 = (some FieldType.boolean) ∧ xMh 344 = [] := by decide +kernel
theorem e344 {X : xX} {d : Nat} {w : xH} {Q : xO → xH → Prop} (a : Nat) (x0 : Int32) : Cw X d 344 [.ref a, .int x0] w Q = Wx X d 344 0 [some (.ref a), some (.int x0)] [] w Q := by
  unfold Cw
  rw [m344.1]
  rfl
theorem d344_0 : decode prog_13_method_128_code 0 = .ok (.aload_n 0, 1) := by decide +kernel
theorem d344_1 : decode prog_13_method_128_code 1 = .ok (.iload_n 1, 1) := by decide +kernel
theorem d344_2 : decode prog_13_method_128_code 2 = .ok (.iconst 4, 1) := by decide +kernel
theorem d344_3 : decode prog_13_method_128_code 3 = .ok (.invokevirtual 502, 3) := by decide +kernel
theorem k344_502_11 : xCa (xMo 344) 502 11 = some (1, 337, 2) := by decide +kernel
theorem n344_502 : xcn (xMo 344) 502 = some 2 := by decide +kernel
theorem d344_6 : decode prog_13_method_128_code 6 = .ok (.ireturn, 1) := by decide +kernel
set_option maxRecDepth 100000 in
theorem q345 : xMc 345 = prog_13_method_129_code := rfl
theorem m345 : xMl 345 = 2 ∧ xMret 345 = (some FieldType.boolean) ∧ xMh 345 = [] := by decide +kernel
theorem e345 {X : xX} {d : Nat} {w : xH} {Q : xO → xH → Prop} (a : Nat) (x0 : Int32) : Cw X d 345 [.ref a, .int x0] w Q = Wx X d 345 0 [some (.ref a), some (.int x0)] [] w Q := by
  unfold Cw
  rw [m345.1]
  rfl
theorem d345_0 : decode prog_13_method_129_code 0 = .ok (.aload_n 0, 1) := by decide +kernel
theorem d345_1 : decode prog_13_method_129_code 1 = .ok (.iload_n 1, 1) := by decide +kernel
theorem d345_2 : decode prog_13_method_129_code 2 = .ok (.iconst 5, 1) := by decide +kernel
theorem d345_3 : decode prog_13_method_129_code 3 = .ok (.invokevirtual 502, 3) := by decide +kernel
theorem k345_502_11 : xCa (xMo 345) 502 11 = some (1, 337, 2) := by decide +kernel
theorem n345_502 : xcn (xMo 345) 502 = some 2 := by decide +kernel
theorem d345_6 : decode prog_13_method_129_code 6 = .ok (.ireturn, 1) := by decide +kernel
set_option maxRecDepth 100000 in
theorem q346 : xMc 346 = prog_13_method_138_code := rfl
theorem m346 : xMl 346 = 4 ∧ xMret 346 = (some FieldType.int) ∧ xMh 346 = [] := by decide +kernel
theorem e346 {X : xX} {d : Nat} {w : xH} {Q : xO → xH → Prop} (a : Nat) (x0 : Int32) : Cw X d 346 [.ref a, .int x0] w Q = Wx X d 346 0 [some (.ref a), some (.int x0), none, none] [] w Q := by
  unfold Cw
  rw [m346.1]
  rfl
theorem d346_0 : decode prog_13_method_138_code 0 = .ok (.aload_n 0, 1) := by decide +kernel
theorem d346_1 : decode prog_13_method_138_code 1 = .ok (.iload_n 1, 1) := by decide +kernel
theorem d346_2 : decode prog_13_method_138_code 2 = .ok (.invokestatic 392, 3) := by decide +kernel
theorem k346_392_99 : xCa (xMo 346) 392 99 = some (0, 262, 1) := by decide +kernel
theorem d346_5 : decode prog_13_method_138_code 5 = .ok (.invokevirtual 395, 3) := by decide +kernel
theorem k346_395_11 : xCa (xMo 346) 395 11 = some (1, 263, 1) := by decide +kernel
theorem n346_395 : xcn (xMo 346) 395 = some 1 := by decide +kernel
theorem d346_8 : decode prog_13_method_138_code 8 = .ok (.ifCond .eq 12, 3) := by decide +kernel
theorem d346_11 : decode prog_13_method_138_code 11 = .ok (.aload_n 0, 1) := by decide +kernel
theorem d346_12 : decode prog_13_method_138_code 12 = .ok (.iload_n 1, 1) := by decide +kernel
theorem d346_13 : decode prog_13_method_138_code 13 = .ok (.iconst 2, 1) := by decide +kernel
theorem d346_14 : decode prog_13_method_138_code 14 = .ok (.invokevirtual 133, 3) := by decide +kernel
theorem k346_133_11 : xCa (xMo 346) 133 11 = some (1, 219, 2) := by decide +kernel
theorem n346_133 : xcn (xMo 346) 133 = some 2 := by decide +kernel
theorem d346_17 : decode prog_13_method_138_code 17 = .ok (.ifCond .ne 5, 3) := by decide +kernel
theorem d346_20 : decode prog_13_method_138_code 20 = .ok (.iconst 0, 1) := by decide +kernel
theorem d346_21 : decode prog_13_method_138_code 21 = .ok (.ireturn, 1) := by decide +kernel
theorem d346_22 : decode prog_13_method_138_code 22 = .ok (.iconst 1, 1) := by decide +kernel
theorem d346_23 : decode prog_13_method_138_code 23 = .ok (.istore_n 2, 1) := by decide +kernel
theorem d346_24 : decode prog_13_method_138_code 24 = .ok (.iconst 0, 1) := by decide +kernel
theorem d346_25 : decode prog_13_method_138_code 25 = .ok (.istore_n 3, 1) := by decide +kernel
theorem d346_26 : decode prog_13_method_138_code 26 = .ok (.iload_n 3, 1) := by decide +kernel
theorem d346_27 : decode prog_13_method_138_code 27 = .ok (.aload_n 0, 1) := by decide +kernel
theorem d346_28 : decode prog_13_method_138_code 28 = .ok (.getfield 7, 3) := by decide +kernel
theorem f346_7 : xFd (xMo 346) 7 = some (11, 0) := by decide +kernel
theorem d346_31 : decode prog_13_method_138_code 31 = .ok (.sipush 400, 3) := by decide +kernel
theorem d346_34 : decode prog_13_method_138_code 34 = .ok (.iload_n 1, 1) := by decide +kernel
theorem d346_35 : decode prog_13_method_138_code 35 = .ok (.iadd, 1) := by decide +kernel
theorem d346_36 : decode prog_13_method_138_code 36 = .ok (.iaload, 1) := by decide +kernel
theorem d346_37 : decode prog_13_method_138_code 37 = .ok (.if_icmp .ge 21, 3) := by decide +kernel
theorem d346_40 : decode prog_13_method_138_code 40 = .ok (.iload_n 2, 1) := by decide +kernel
theorem d346_41 : decode prog_13_method_138_code 41 = .ok (.aload_n 0, 1) := by decide +kernel
theorem d346_42 : decode prog_13_method_138_code 42 = .ok (.iload_n 1, 1) := by decide +kernel
theorem d346_43 : decode prog_13_method_138_code 43 = .ok (.iload_n 3, 1) := by decide +kernel
theorem d346_44 : decode prog_13_method_138_code 44 = .ok (.invokevirtual 111, 3) := by decide +kernel
theorem k346_111_11 : xCa (xMo 346) 111 11 = some (1, 222, 2) := by decide +kernel
theorem n346_111 : xcn (xMo 346) 111 = some 2 := by decide +kernel
theorem d346_47 : decode prog_13_method_138_code 47 = .ok (.invokestatic 540, 3) := by decide +kernel
theorem k346_540_99 : xCa (xMo 346) 540 99 = some (0, 347, 1) := by decide +kernel
theorem d346_50 : decode prog_13_method_138_code 50 = .ok (.iadd, 1) := by decide +kernel
theorem d346_51 : decode prog_13_method_138_code 51 = .ok (.istore_n 2, 1) := by decide +kernel
theorem d346_52 : decode prog_13_method_138_code 52 = .ok (.iinc 3 1, 3) := by decide +kernel
theorem d346_55 : decode prog_13_method_138_code 55 = .ok (.goto (-29), 3) := by decide +kernel
theorem d346_58 : decode prog_13_method_138_code 58 = .ok (.iload_n 2, 1) := by decide +kernel
theorem d346_59 : decode prog_13_method_138_code 59 = .ok (.ireturn, 1) := by decide +kernel
set_option maxRecDepth 100000 in
theorem q347 : xMc 347 = prog_13_method_133_code := rfl
theorem m347 : xMl 347 = 2 ∧ xMret 347 = (some FieldType.int) ∧ xMh 347 = [] := by decide +kernel
theorem e347 {X : xX} {d : Nat} {w : xH} {Q : xO → xH → Prop} (x0 : Int32) : Cw X d 347 [.int x0] w Q = Wx X d 347 0 [some (.int x0), none] [] w Q := by
  unfold Cw
  rw [m347.1]
  rfl
theorem d347_0 : decode prog_13_method_133_code 0 = .ok (.iload_n 0, 1) := by decide +kernel
theorem d347_1 : decode prog_13_method_133_code 1 = .ok (.sipush 200, 3) := by decide +kernel
theorem d347_4 : decode prog_13_method_133_code 4 = .ok (.if_icmp .ge 5, 3) := by decide +kernel
theorem d347_7 : decode prog_13_method_133_code 7 = .ok (.iconst 1, 1) := by decide +kernel
theorem d347_8 : decode prog_13_method_133_code 8 = .ok (.ireturn, 1) := by decide +kernel
theorem d347_9 : decode prog_13_method_133_code 9 = .ok (.iload_n 0, 1) := by decide +kernel
theorem d347_10 : decode prog_13_method_133_code 10 = .ok (.invokestatic 194, 3) := by decide +kernel
theorem k347_194_99 : xCa (xMo 347) 194 99 = some (0, 279, 1) := by decide +kernel
theorem d347_13 : decode prog_13_method_133_code 13 = .ok (.ifCond .eq 8, 3) := by decide +kernel
theorem d347_16 : decode prog_13_method_133_code 16 = .ok (.iload_n 0, 1) := by decide +kernel
theorem d347_17 : decode prog_13_method_133_code 17 = .ok (.invokestatic 508, 3) := by decide +kernel
theorem k347_508_99 : xCa (xMo 347) 508 99 = some (0, 348, 1) := by decide +kernel
theorem d347_20 : decode prog_13_method_133_code 20 = .ok (.ireturn, 1) := by decide +kernel
theorem d347_21 : decode prog_13_method_133_code 21 = .ok (.iload_n 0, 1) := by decide +kernel
theorem d347_22 : decode prog_13_method_133_code 22 = .ok (.ldc 109, 2) := by decide +kernel
theorem d347_24 : decode prog_13_method_133_code 24 = .ok (.if_icmp .ge 12, 3) := by decide +kernel
theorem d347_27 : decode prog_13_method_133_code 27 = .ok (.iload_n 0, 1) := by decide +kernel
theorem d347_28 : decode prog_13_method_133_code 28 = .ok (.sipush 10000, 3) := by decide +kernel
theorem d347_31 : decode prog_13_method_133_code 31 = .ok (.isub, 1) := by decide +kernel
theorem d347_32 : decode prog_13_method_133_code 32 = .ok (.invokestatic 511, 3) := by decide +kernel
theorem k347_511_99 : xCa (xMo 347) 511 99 = some (0, 349, 1) := by decide +kernel
theorem d347_35 : decode prog_13_method_133_code 35 = .ok (.ireturn, 1) := by decide +kernel
theorem d347_36 : decode prog_13_method_133_code 36 = .ok (.iload_n 0, 1) := by decide +kernel
theorem d347_37 : decode prog_13_method_133_code 37 = .ok (.invokestatic 140, 3) := by decide +kernel
theorem k347_140_99 : xCa (xMo 347) 140 99 = some (0, 224, 1) := by decide +kernel
theorem d347_40 : decode prog_13_method_133_code 40 = .ok (.bipush 10, 2) := by decide +kernel
theorem d347_42 : decode prog_13_method_133_code 42 = .ok (.idiv, 1) := by decide +kernel
theorem d347_43 : decode prog_13_method_133_code 43 = .ok (.iconst 1, 1) := by decide +kernel
theorem d347_44 : decode prog_13_method_133_code 44 = .ok (.iadd, 1) := by decide +kernel
theorem d347_45 : decode prog_13_method_133_code 45 = .ok (.istore_n 1, 1) := by decide +kernel
theorem d347_46 : decode prog_13_method_133_code 46 = .ok (.iload_n 0, 1) := by decide +kernel
theorem d347_47 : decode prog_13_method_133_code 47 = .ok (.ldc 110, 2) := by decide +kernel
theorem d347_49 : decode prog_13_method_133_code 49 = .ok (.if_icmp .ne 7, 3) := by decide +kernel
theorem d347_52 : decode prog_13_method_133_code 52 = .ok (.iconst 4, 1) := by decide +kernel
theorem d347_53 : decode prog_13_method_133_code 53 = .ok (.goto 23, 3) := by decide +kernel
theorem d347_56 : decode prog_13_method_133_code 56 = .ok (.iconst 1, 1) := by decide +kernel
theorem d347_57 : decode prog_13_method_133_code 57 = .ok (.iload_n 0, 1) := by decide +kernel
theorem d347_58 : decode prog_13_method_133_code 58 = .ok (.invokestatic 514, 3) := by decide +kernel
theorem k347_514_99 : xCa (xMo 347) 514 99 = some (0, 350, 1) := by decide +kernel
theorem d347_61 : decode prog_13_method_133_code 61 = .ok (.iconst 2, 1) := by decide +kernel
theorem d347_62 : decode prog_13_method_133_code 62 = .ok (.irem, 1) := by decide +kernel
theorem d347_63 : decode prog_13_method_133_code 63 = .ok (.iadd, 1) := by decide +kernel
theorem d347_64 : decode prog_13_method_133_code 64 = .ok (.iload_n 0, 1) := by decide +kernel
theorem d347_65 : decode prog_13_method_133_code 65 = .ok (.invokestatic 514, 3) := by decide +kernel
theorem d347_68 : decode prog_13_method_133_code 68 = .ok (.iconst 2, 1) := by decide +kernel
theorem d347_69 : decode prog_13_method_133_code 69 = .ok (.idiv, 1) := by decide +kernel
theorem d347_70 : decode prog_13_method_133_code 70 = .ok (.iadd, 1) := by decide +kernel
theorem d347_71 : decode prog_13_method_133_code 71 = .ok (.iload_n 1, 1) := by decide +kernel
theorem d347_72 : decode prog_13_method_133_code 72 = .ok (.invokestatic 511, 3) := by decide +kernel
theorem d347_75 : decode prog_13_method_133_code 75 = .ok (.iadd, 1) := by decide +kernel
theorem d347_76 : decode prog_13_method_133_code 76 = .ok (.ireturn, 1) := by decide +kernel
set_option maxRecDepth 100000 in
theorem q348 : xMc 348 = prog_13_method_131_code := rfl
theorem m348 : xMl 348 = 1 ∧ xMret 348 = (some FieldType.int) ∧ xMh 348 = [] := by decide +kernel
theorem e348 {X : xX} {d : Nat} {w : xH} {Q : xO → xH → Prop} (x0 : Int32) : Cw X d 348 [.int x0] w Q = Wx X d 348 0 [some (.int x0)] [] w Q := by
  unfold Cw
  rw [m348.1]
  rfl
theorem d348_0 : decode prog_13_method_131_code 0 = .ok (.iload_n 0, 1) := by decide +kernel
theorem d348_1 : decode prog_13_method_131_code 1 = .ok (.sipush 203, 3) := by decide +kernel
theorem d348_4 : decode prog_13_method_131_code 4 = .ok (.if_icmp .ne 7, 3) := by decide +kernel
theorem d348_7 : decode prog_13_method_131_code 7 = .ok (.iconst 5, 1) := by decide +kernel
theorem d348_8 : decode prog_13_method_131_code 8 = .ok (.goto 15, 3) := by decide +kernel
theorem d348_11 : decode prog_13_method_131_code 11 = .ok (.iload_n 0, 1) := by decide +kernel
theorem d348_12 : decode prog_13_method_131_code 12 = .ok (.sipush 205, 3) := by decide +kernel
theorem d348_15 : decode prog_13_method_131_code 15 = .ok (.if_icmp .ne 7, 3) := by decide +kernel
theorem d348_18 : decode prog_13_method_131_code 18 = .ok (.iconst 2, 1) := by decide +kernel
theorem d348_19 : decode prog_13_method_131_code 19 = .ok (.goto 4, 3) := by decide +kernel
theorem d348_22 : decode prog_13_method_131_code 22 = .ok (.iconst 3, 1) := by decide +kernel
theorem d348_23 : decode prog_13_method_131_code 23 = .ok (.ireturn, 1) := by decide +kernel
set_option maxRecDepth 100000 in
theorem q349 : xMc 349 = prog_13_method_130_code := rfl
theorem m349 : xMl 349 = 3 ∧ xMret 349 = (some FieldType.int) ∧ xMh 349 = [] := by decide +kernel
theorem e349 {X : xX} {d : Nat} {w : xH} {Q : xO → xH → Prop} (x0 : Int32) : Cw X d 349 [.int x0] w Q = Wx X d 349 0 [some (.int x0), none, none] [] w Q := by
  unfold Cw
  rw [m349.1]
  rfl
theorem d349_0 : decode prog_13_method_130_code 0 = .ok (.iconst 1, 1) := by decide +kernel
theorem d349_1 : decode prog_13_method_130_code 1 = .ok (.istore_n 1, 1) := by decide +kernel
theorem d349_2 : decode prog_13_method_130_code 2 = .ok (.iload_n 0, 1) := by decide +kernel
theorem d349_3 : decode prog_13_method_130_code 3 = .ok (.istore_n 2, 1) := by decide +kernel
theorem d349_4 : decode prog_13_method_130_code 4 = .ok (.iload_n 2, 1) := by decide +kernel
theorem d349_5 : decode prog_13_method_130_code 5 = .ok (.bipush 9, 2) := by decide +kernel
theorem d349_7 : decode prog_13_method_130_code 7 = .ok (.if_icmp .le 14, 3) := by decide +kernel
theorem d349_10 : decode prog_13_method_130_code 10 = .ok (.iload_n 2, 1) := by decide +kernel
theorem d349_11 : decode prog_13_method_130_code 11 = .ok (.bipush 10, 2) := by decide +kernel
theorem d349_13 : decode prog_13_method_130_code 13 = .ok (.idiv, 1) := by decide +kernel
theorem d349_14 : decode prog_13_method_130_code 14 = .ok (.istore_n 2, 1) := by decide +kernel
theorem d349_15 : decode prog_13_method_130_code 15 = .ok (.iinc 1 1, 3) := by decide +kernel
theorem d349_18 : decode prog_13_method_130_code 18 = .ok (.goto (-14), 3) := by decide +kernel
theorem d349_21 : decode prog_13_method_130_code 21 = .ok (.iload_n 1, 1) := by decide +kernel
theorem d349_22 : decode prog_13_method_130_code 22 = .ok (.ireturn, 1) := by decide +kernel
set_option maxRecDepth 100000 in
theorem q350 : xMc 350 = prog_13_method_132_code := rfl
theorem m350 : xMl 350 = 1 ∧ xMret 350 = (some FieldType.int) ∧ xMh 350 = [] := by decide +kernel
theorem e350 {X : xX} {d : Nat} {w : xH} {Q : xO → xH → Prop} (x0 : Int32) : Cw X d 350 [.int x0] w Q = Wx X d 350 0 [some (.int x0)] [] w Q := by
  unfold Cw
  rw [m350.1]
  rfl
theorem d350_0 : decode prog_13_method_132_code 0 = .ok (.iload_n 0, 1) := by decide +kernel
theorem d350_1 : decode prog_13_method_132_code 1 = .ok (.ldc 109, 2) := by decide +kernel
theorem d350_3 : decode prog_13_method_132_code 3 = .ok (.isub, 1) := by decide +kernel
theorem d350_4 : decode prog_13_method_132_code 4 = .ok (.sipush 1000, 3) := by decide +kernel
theorem d350_7 : decode prog_13_method_132_code 7 = .ok (.idiv, 1) := by decide +kernel
theorem d350_8 : decode prog_13_method_132_code 8 = .ok (.ireturn, 1) := by decide +kernel
set_option maxRecDepth 100000 in
theorem q351 : xMc 351 = prog_13_method_139_code := rfl
theorem m351 : xMl 351 = 6 ∧ xMret 351 = (some FieldType.int) ∧ xMh 351 = [] := by decide +kernel
theorem e351 {X : xX} {d : Nat} {w : xH} {Q : xO → xH → Prop} (a : Nat) (x0 : Int32) (x1 : Int32) : Cw X d 351 [.ref a, .int x0, .int x1] w Q = Wx X d 351 0 [some (.ref a), some (.int x0), some (.int x1), none, none, none] [] w Q := by
  unfold Cw
  rw [m351.1]
  rfl
theorem d351_0 : decode prog_13_method_139_code 0 = .ok (.aload_n 0, 1) := by decide +kernel
theorem d351_1 : decode prog_13_method_139_code 1 = .ok (.iload_n 1, 1) := by decide +kernel
theorem d351_2 : decode prog_13_method_139_code 2 = .ok (.invokestatic 392, 3) := by decide +kernel
theorem k351_392_99 : xCa (xMo 351) 392 99 = some (0, 262, 1) := by decide +kernel
theorem d351_5 : decode prog_13_method_139_code 5 = .ok (.ifCond .eq 11, 3) := by decide +kernel
theorem d351_8 : decode prog_13_method_139_code 8 = .ok (.iload_n 2, 1) := by decide +kernel
theorem d351_9 : decode prog_13_method_139_code 9 = .ok (.ifCond .lt 7, 3) := by decide +kernel
theorem d351_12 : decode prog_13_method_139_code 12 = .ok (.iconst 1, 1) := by decide +kernel
theorem d351_13 : decode prog_13_method_139_code 13 = .ok (.goto 4, 3) := by decide +kernel
theorem d351_16 : decode prog_13_method_139_code 16 = .ok (.iconst 0, 1) := by decide +kernel
theorem d351_17 : decode prog_13_method_139_code 17 = .ok (.invokevirtual 395, 3) := by decide +kernel
theorem k351_395_11 : xCa (xMo 351) 395 11 = some (1, 263, 1) := by decide +kernel
theorem n351_395 : xcn (xMo 351) 395 = some 1 := by decide +kernel
theorem d351_20 : decode prog_13_method_139_code 20 = .ok (.ifCond .ne 5, 3) := by decide +kernel
theorem d351_23 : decode prog_13_method_139_code 23 = .ok (.iconst 0, 1) := by decide +kernel
theorem d351_24 : decode prog_13_method_139_code 24 = .ok (.ireturn, 1) := by decide +kernel
theorem d351_25 : decode prog_13_method_139_code 25 = .ok (.aload_n 0, 1) := by decide +kernel
theorem d351_26 : decode prog_13_method_139_code 26 = .ok (.iload_n 1, 1) := by decide +kernel
theorem d351_27 : decode prog_13_method_139_code 27 = .ok (.iconst 2, 1) := by decide +kernel
theorem d351_28 : decode prog_13_method_139_code 28 = .ok (.invokevirtual 133, 3) := by decide +kernel
theorem k351_133_11 : xCa (xMo 351) 133 11 = some (1, 219, 2) := by decide +kernel
theorem n351_133 : xcn (xMo 351) 133 = some 2 := by decide +kernel
theorem d351_31 : decode prog_13_method_139_code 31 = .ok (.ifCond .ne 5, 3) := by decide +kernel
theorem d351_34 : decode prog_13_method_139_code 34 = .ok (.iconst (-1), 1) := by decide +kernel
theorem d351_35 : decode prog_13_method_139_code 35 = .ok (.ireturn, 1) := by decide +kernel
theorem d351_36 : decode prog_13_method_139_code 36 = .ok (.iload_n 2, 1) := by decide +kernel
theorem d351_37 : decode prog_13_method_139_code 37 = .ok (.iconst 1, 1) := by decide +kernel
theorem d351_38 : decode prog_13_method_139_code 38 = .ok (.isub, 1) := by decide +kernel
theorem d351_39 : decode prog_13_method_139_code 39 = .ok (.istore_n 3, 1) := by decide +kernel
theorem d351_40 : decode prog_13_method_139_code 40 = .ok (.iconst 0, 1) := by decide +kernel
theorem d351_41 : decode prog_13_method_139_code 41 = .ok (.istore 4, 2) := by decide +kernel
theorem d351_43 : decode prog_13_method_139_code 43 = .ok (.iload 4, 2) := by decide +kernel
theorem d351_45 : decode prog_13_method_139_code 45 = .ok (.aload_n 0, 1) := by decide +kernel
theorem d351_46 : decode prog_13_method_139_code 46 = .ok (.getfield 7, 3) := by decide +kernel
theorem f351_7 : xFd (xMo 351) 7 = some (11, 0) := by decide +kernel
theorem d351_49 : decode prog_13_method_139_code 49 = .ok (.sipush 400, 3) := by decide +kernel
theorem d351_52 : decode prog_13_method_139_code 52 = .ok (.iload_n 1, 1) := by decide +kernel
theorem d351_53 : decode prog_13_method_139_code 53 = .ok (.iadd, 1) := by decide +kernel
theorem d351_54 : decode prog_13_method_139_code 54 = .ok (.iaload, 1) := by decide +kernel
theorem d351_55 : decode prog_13_method_139_code 55 = .ok (.if_icmp .ge 48, 3) := by decide +kernel
theorem d351_58 : decode prog_13_method_139_code 58 = .ok (.iload_n 3, 1) := by decide +kernel
theorem d351_59 : decode prog_13_method_139_code 59 = .ok (.ifCond .lt 44, 3) := by decide +kernel
theorem d351_62 : decode prog_13_method_139_code 62 = .ok (.aload_n 0, 1) := by decide +kernel
theorem d351_63 : decode prog_13_method_139_code 63 = .ok (.iload_n 1, 1) := by decide +kernel
theorem d351_64 : decode prog_13_method_139_code 64 = .ok (.iload 4, 2) := by decide +kernel
theorem d351_66 : decode prog_13_method_139_code 66 = .ok (.invokevirtual 111, 3) := by decide +kernel
theorem k351_111_11 : xCa (xMo 351) 111 11 = some (1, 222, 2) := by decide +kernel
theorem n351_111 : xcn (xMo 351) 111 = some 2 := by decide +kernel
theorem d351_69 : decode prog_13_method_139_code 69 = .ok (.invokestatic 540, 3) := by decide +kernel
theorem k351_540_99 : xCa (xMo 351) 540 99 = some (0, 347, 1) := by decide +kernel
theorem d351_72 : decode prog_13_method_139_code 72 = .ok (.istore 5, 2) := by decide +kernel
theorem d351_74 : decode prog_13_method_139_code 74 = .ok (.iload_n 3, 1) := by decide +kernel
theorem d351_75 : decode prog_13_method_139_code 75 = .ok (.iload 5, 2) := by decide +kernel
theorem d351_77 : decode prog_13_method_139_code 77 = .ok (.if_icmp .ge 15, 3) := by decide +kernel
theorem d351_80 : decode prog_13_method_139_code 80 = .ok (.aload_n 0, 1) := by decide +kernel
theorem d351_81 : decode prog_13_method_139_code 81 = .ok (.iload_n 1, 1) := by decide +kernel
theorem d351_82 : decode prog_13_method_139_code 82 = .ok (.iload 4, 2) := by decide +kernel
theorem d351_84 : decode prog_13_method_139_code 84 = .ok (.invokevirtual 111, 3) := by decide +kernel
theorem d351_87 : decode prog_13_method_139_code 87 = .ok (.iload_n 3, 1) := by decide +kernel
theorem d351_88 : decode prog_13_method_139_code 88 = .ok (.invokestatic 543, 3) := by decide +kernel
theorem k351_543_99 : xCa (xMo 351) 543 99 = some (0, 352, 2) := by decide +kernel
theorem d351_91 : decode prog_13_method_139_code 91 = .ok (.ireturn, 1) := by decide +kernel
theorem d351_92 : decode prog_13_method_139_code 92 = .ok (.iload_n 3, 1) := by decide +kernel
theorem d351_93 : decode prog_13_method_139_code 93 = .ok (.iload 5, 2) := by decide +kernel
theorem d351_95 : decode prog_13_method_139_code 95 = .ok (.isub, 1) := by decide +kernel
theorem d351_96 : decode prog_13_method_139_code 96 = .ok (.istore_n 3, 1) := by decide +kernel
theorem d351_97 : decode prog_13_method_139_code 97 = .ok (.iinc 4 1, 3) := by decide +kernel
theorem d351_100 : decode prog_13_method_139_code 100 = .ok (.goto (-57), 3) := by decide +kernel
theorem d351_103 : decode prog_13_method_139_code 103 = .ok (.iload_n 3, 1) := by decide +kernel
theorem d351_104 : decode prog_13_method_139_code 104 = .ok (.ifCond .ge 8, 3) := by decide +kernel
theorem d351_107 : decode prog_13_method_139_code 107 = .ok (.bipush 61, 2) := by decide +kernel
theorem d351_109 : decode prog_13_method_139_code 109 = .ok (.goto 4, 3) := by decide +kernel
theorem d351_112 : decode prog_13_method_139_code 112 = .ok (.iconst (-1), 1) := by decide +kernel
theorem d351_113 : decode prog_13_method_139_code 113 = .ok (.ireturn, 1) := by decide +kernel
set_option maxRecDepth 100000 in
theorem q352 : xMc 352 = prog_13_method_137_code := rfl
theorem m352 : xMl 352 = 3 ∧ xMret 352 = (some FieldType.int) ∧ xMh 352 = [] := by decide +kernel
theorem e352 {X : xX} {d : Nat} {w : xH} {Q : xO → xH → Prop} (x0 : Int32) (x1 : Int32) : Cw X d 352 [.int x0, .int x1] w Q = Wx X d 352 0 [some (.int x0), some (.int x1), none] [] w Q := by
  unfold Cw
  rw [m352.1]
  rfl
theorem d352_0 : decode prog_13_method_137_code 0 = .ok (.iload_n 0, 1) := by decide +kernel
theorem d352_1 : decode prog_13_method_137_code 1 = .ok (.sipush 200, 3) := by decide +kernel
theorem d352_4 : decode prog_13_method_137_code 4 = .ok (.if_icmp .ge 5, 3) := by decide +kernel
theorem d352_7 : decode prog_13_method_137_code 7 = .ok (.iload_n 0, 1) := by decide +kernel
theorem d352_8 : decode prog_13_method_137_code 8 = .ok (.ireturn, 1) := by decide +kernel
theorem d352_9 : decode prog_13_method_137_code 9 = .ok (.iload_n 0, 1) := by decide +kernel
theorem d352_10 : decode prog_13_method_137_code 10 = .ok (.invokestatic 194, 3) := by decide +kernel
theorem k352_194_99 : xCa (xMo 352) 194 99 = some (0, 279, 1) := by decide +kernel
theorem d352_13 : decode prog_13_method_137_code 13 = .ok (.ifCond .eq 9, 3) := by decide +kernel
theorem d352_16 : decode prog_13_method_137_code 16 = .ok (.iload_n 0, 1) := by decide +kernel
theorem d352_17 : decode prog_13_method_137_code 17 = .ok (.iload_n 1, 1) := by decide +kernel
theorem d352_18 : decode prog_13_method_137_code 18 = .ok (.invokestatic 534, 3) := by decide +kernel
theorem k352_534_99 : xCa (xMo 352) 534 99 = some (0, 353, 2) := by decide +kernel
theorem d352_21 : decode prog_13_method_137_code 21 = .ok (.ireturn, 1) := by decide +kernel
theorem d352_22 : decode prog_13_method_137_code 22 = .ok (.iload_n 0, 1) := by decide +kernel
theorem d352_23 : decode prog_13_method_137_code 23 = .ok (.ldc 109, 2) := by decide +kernel
theorem d352_25 : decode prog_13_method_137_code 25 = .ok (.if_icmp .ge 13, 3) := by decide +kernel
theorem d352_28 : decode prog_13_method_137_code 28 = .ok (.iload_n 0, 1) := by decide +kernel
theorem d352_29 : decode prog_13_method_137_code 29 = .ok (.sipush 10000, 3) := by decide +kernel
theorem d352_32 : decode prog_13_method_137_code 32 = .ok (.isub, 1) := by decide +kernel
theorem d352_33 : decode prog_13_method_137_code 33 = .ok (.iload_n 1, 1) := by decide +kernel
theorem d352_34 : decode prog_13_method_137_code 34 = .ok (.invokestatic 531, 3) := by decide +kernel
theorem k352_531_99 : xCa (xMo 352) 531 99 = some (0, 354, 2) := by decide +kernel
theorem d352_37 : decode prog_13_method_137_code 37 = .ok (.ireturn, 1) := by decide +kernel
theorem d352_38 : decode prog_13_method_137_code 38 = .ok (.iload_n 1, 1) := by decide +kernel
theorem d352_39 : decode prog_13_method_137_code 39 = .ok (.ifCond .ne 8, 3) := by decide +kernel
theorem d352_42 : decode prog_13_method_137_code 42 = .ok (.bipush 35, 2) := by decide +kernel
theorem d352_44 : decode prog_13_method_137_code 44 = .ok (.goto 25, 3) := by decide +kernel
theorem d352_47 : decode prog_13_method_137_code 47 = .ok (.iload_n 1, 1) := by decide +kernel
theorem d352_48 : decode prog_13_method_137_code 48 = .ok (.iconst 1, 1) := by decide +kernel
theorem d352_49 : decode prog_13_method_137_code 49 = .ok (.if_icmp .ne 8, 3) := by decide +kernel
theorem d352_52 : decode prog_13_method_137_code 52 = .ok (.bipush 82, 2) := by decide +kernel
theorem d352_54 : decode prog_13_method_137_code 54 = .ok (.goto 15, 3) := by decide +kernel
theorem d352_57 : decode prog_13_method_137_code 57 = .ok (.iload_n 1, 1) := by decide +kernel
theorem d352_58 : decode prog_13_method_137_code 58 = .ok (.iconst 2, 1) := by decide +kernel
theorem d352_59 : decode prog_13_method_137_code 59 = .ok (.if_icmp .ne 8, 3) := by decide +kernel
theorem d352_62 : decode prog_13_method_137_code 62 = .ok (.bipush 69, 2) := by decide +kernel
theorem d352_64 : decode prog_13_method_137_code 64 = .ok (.goto 5, 3) := by decide +kernel
theorem d352_67 : decode prog_13_method_137_code 67 = .ok (.bipush 70, 2) := by decide +kernel
theorem d352_69 : decode prog_13_method_137_code 69 = .ok (.istore_n 2, 1) := by decide +kernel
theorem d352_70 : decode prog_13_method_137_code 70 = .ok (.iload_n 0, 1) := by decide +kernel
theorem d352_71 : decode prog_13_method_137_code 71 = .ok (.ldc 110, 2) := by decide +kernel
theorem d352_73 : decode prog_13_method_137_code 73 = .ok (.if_icmp .ne 7, 3) := by decide +kernel
theorem d352_76 : decode prog_13_method_137_code 76 = .ok (.iload_n 2, 1) := by decide +kernel
theorem d352_77 : decode prog_13_method_137_code 77 = .ok (.goto 8, 3) := by decide +kernel
theorem d352_80 : decode prog_13_method_137_code 80 = .ok (.iload_n 0, 1) := by decide +kernel
theorem d352_81 : decode prog_13_method_137_code 81 = .ok (.iload_n 1, 1) := by decide +kernel
theorem d352_82 : decode prog_13_method_137_code 82 = .ok (.invokestatic 537, 3) := by decide +kernel
theorem k352_537_99 : xCa (xMo 352) 537 99 = some (0, 355, 2) := by decide +kernel
theorem d352_85 : decode prog_13_method_137_code 85 = .ok (.ireturn, 1) := by decide +kernel
set_option maxRecDepth 100000 in
theorem q353 : xMc 353 = prog_13_method_135_code := rfl
theorem m353 : xMl 353 = 4 ∧ xMret 353 = (some FieldType.int) ∧ xMh 353 = [] := by decide +kernel
theorem e353 {X : xX} {d : Nat} {w : xH} {Q : xO → xH → Prop} (x0 : Int32) (x1 : Int32) : Cw X d 353 [.int x0, .int x1] w Q = Wx X d 353 0 [some (.int x0), some (.int x1), none, none] [] w Q := by
  unfold Cw
  rw [m353.1]
  rfl
theorem d353_0 : decode prog_13_method_135_code 0 = .ok (.lconst 0, 1) := by decide +kernel
theorem d353_1 : decode prog_13_method_135_code 1 = .ok (.lstore_n 2, 1) := by decide +kernel
theorem d353_2 : decode prog_13_method_135_code 2 = .ok (.iload_n 0, 1) := by decide +kernel
theorem d353_3 : decode prog_13_method_135_code 3 = .ok (.tableswitch 72 200 205 #[37, 44, 51, 72, 58, 65], 37) := by decide +kernel
theorem d353_40 : decode prog_13_method_135_code 40 = .ok (.ldc2_w 517, 3) := by decide +kernel
theorem d353_43 : decode prog_13_method_135_code 43 = .ok (.lstore_n 2, 1) := by decide +kernel
theorem d353_44 : decode prog_13_method_135_code 44 = .ok (.goto 35, 3) := by decide +kernel
theorem d353_47 : decode prog_13_method_135_code 47 = .ok (.ldc2_w 519, 3) := by decide +kernel
theorem d353_50 : decode prog_13_method_135_code 50 = .ok (.lstore_n 2, 1) := by decide +kernel
theorem d353_51 : decode prog_13_method_135_code 51 = .ok (.goto 28, 3) := by decide +kernel
theorem d353_54 : decode prog_13_method_135_code 54 = .ok (.ldc2_w 521, 3) := by decide +kernel
theorem d353_57 : decode prog_13_method_135_code 57 = .ok (.lstore_n 2, 1) := by decide +kernel
theorem d353_58 : decode prog_13_method_135_code 58 = .ok (.goto 21, 3) := by decide +kernel
theorem d353_61 : decode prog_13_method_135_code 61 = .ok (.ldc2_w 523, 3) := by decide +kernel
theorem d353_64 : decode prog_13_method_135_code 64 = .ok (.lstore_n 2, 1) := by decide +kernel
theorem d353_65 : decode prog_13_method_135_code 65 = .ok (.goto 14, 3) := by decide +kernel
theorem d353_68 : decode prog_13_method_135_code 68 = .ok (.ldc2_w 525, 3) := by decide +kernel
theorem d353_71 : decode prog_13_method_135_code 71 = .ok (.lstore_n 2, 1) := by decide +kernel
theorem d353_72 : decode prog_13_method_135_code 72 = .ok (.goto 7, 3) := by decide +kernel
theorem d353_75 : decode prog_13_method_135_code 75 = .ok (.ldc2_w 527, 3) := by decide +kernel
theorem d353_78 : decode prog_13_method_135_code 78 = .ok (.lstore_n 2, 1) := by decide +kernel
theorem d353_79 : decode prog_13_method_135_code 79 = .ok (.lload_n 2, 1) := by decide +kernel
theorem d353_80 : decode prog_13_method_135_code 80 = .ok (.bipush 8, 2) := by decide +kernel
theorem d353_82 : decode prog_13_method_135_code 82 = .ok (.iload_n 0, 1) := by decide +kernel
theorem d353_83 : decode prog_13_method_135_code 83 = .ok (.invokestatic 508, 3) := by decide +kernel
theorem k353_508_99 : xCa (xMo 353) 508 99 = some (0, 348, 1) := by decide +kernel
theorem d353_86 : decode prog_13_method_135_code 86 = .ok (.iconst 1, 1) := by decide +kernel
theorem d353_87 : decode prog_13_method_135_code 87 = .ok (.isub, 1) := by decide +kernel
theorem d353_88 : decode prog_13_method_135_code 88 = .ok (.iload_n 1, 1) := by decide +kernel
theorem d353_89 : decode prog_13_method_135_code 89 = .ok (.isub, 1) := by decide +kernel
theorem d353_90 : decode prog_13_method_135_code 90 = .ok (.imul, 1) := by decide +kernel
theorem d353_91 : decode prog_13_method_135_code 91 = .ok (.lshr, 1) := by decide +kernel
theorem d353_92 : decode prog_13_method_135_code 92 = .ok (.ldc2_w 529, 3) := by decide +kernel
theorem d353_95 : decode prog_13_method_135_code 95 = .ok (.land, 1) := by decide +kernel
theorem d353_96 : decode prog_13_method_135_code 96 = .ok (.l2i, 1) := by decide +kernel
theorem d353_97 : decode prog_13_method_135_code 97 = .ok (.ireturn, 1) := by decide +kernel
set_option maxRecDepth 100000 in
theorem q354 : xMc 354 = prog_13_method_134_code := rfl
theorem m354 : xMl 354 = 4 ∧ xMret 354 = (some FieldType.int) ∧ xMh 354 = [] := by decide +kernel
theorem e354 {X : xX} {d : Nat} {w : xH} {Q : xO → xH → Prop} (x0 : Int32) (x1 : Int32) : Cw X d 354 [.int x0, .int x1] w Q = Wx X d 354 0 [some (.int x0), some (.int x1), none, none] [] w Q := by
  unfold Cw
  rw [m354.1]
  rfl
theorem d354_0 : decode prog_13_method_134_code 0 = .ok (.iload_n 0, 1) := by decide +kernel
theorem d354_1 : decode prog_13_method_134_code 1 = .ok (.istore_n 2, 1) := by decide +kernel
theorem d354_2 : decode prog_13_method_134_code 2 = .ok (.iload_n 0, 1) := by decide +kernel
theorem d354_3 : decode prog_13_method_134_code 3 = .ok (.invokestatic 511, 3) := by decide +kernel
theorem k354_511_99 : xCa (xMo 354) 511 99 = some (0, 349, 1) := by decide +kernel
theorem d354_6 : decode prog_13_method_134_code 6 = .ok (.iconst 1, 1) := by decide +kernel
theorem d354_7 : decode prog_13_method_134_code 7 = .ok (.isub, 1) := by decide +kernel
theorem d354_8 : decode prog_13_method_134_code 8 = .ok (.istore_n 3, 1) := by decide +kernel
theorem d354_9 : decode prog_13_method_134_code 9 = .ok (.iload_n 3, 1) := by decide +kernel
theorem d354_10 : decode prog_13_method_134_code 10 = .ok (.iload_n 1, 1) := by decide +kernel
theorem d354_11 : decode prog_13_method_134_code 11 = .ok (.if_icmp .le 14, 3) := by decide +kernel
theorem d354_14 : decode prog_13_method_134_code 14 = .ok (.iload_n 2, 1) := by decide +kernel
theorem d354_15 : decode prog_13_method_134_code 15 = .ok (.bipush 10, 2) := by decide +kernel
theorem d354_17 : decode prog_13_method_134_code 17 = .ok (.idiv, 1) := by decide +kernel
theorem d354_18 : decode prog_13_method_134_code 18 = .ok (.istore_n 2, 1) := by decide +kernel
theorem d354_19 : decode prog_13_method_134_code 19 = .ok (.iinc 3 (-1), 3) := by decide +kernel
theorem d354_22 : decode prog_13_method_134_code 22 = .ok (.goto (-13), 3) := by decide +kernel
theorem d354_25 : decode prog_13_method_134_code 25 = .ok (.bipush 48, 2) := by decide +kernel
theorem d354_27 : decode prog_13_method_134_code 27 = .ok (.iload_n 2, 1) := by decide +kernel
theorem d354_28 : decode prog_13_method_134_code 28 = .ok (.bipush 10, 2) := by decide +kernel
theorem d354_30 : decode prog_13_method_134_code 30 = .ok (.irem, 1) := by decide +kernel
theorem d354_31 : decode prog_13_method_134_code 31 = .ok (.iadd, 1) := by decide +kernel
theorem d354_32 : decode prog_13_method_134_code 32 = .ok (.ireturn, 1) := by decide +kernel
set_option maxRecDepth 100000 in
theorem q355 : xMc 355 = prog_13_method_136_code := rfl
theorem m355 : xMl 355 = 4 ∧ xMret 355 = (some FieldType.int) ∧ xMh 355 = [] := by decide +kernel
theorem e355 {X : xX} {d : Nat} {w : xH} {Q : xO → xH → Prop} (x0 : Int32) (x1 : Int32) : Cw X d 355 [.int x0, .int x1] w Q = Wx X d 355 0 [some (.int x0), some (.int x1), none, none] [] w Q := by
  unfold Cw
  rw [m355.1]
  rfl
theorem d355_0 : decode prog_13_method_136_code 0 = .ok (.iload_n 0, 1) := by decide +kernel
theorem d355_1 : decode prog_13_method_136_code 1 = .ok (.invokestatic 514, 3) := by decide +kernel
theorem k355_514_99 : xCa (xMo 355) 514 99 = some (0, 350, 1) := by decide +kernel
theorem d355_4 : decode prog_13_method_136_code 4 = .ok (.iconst 2, 1) := by decide +kernel
theorem d355_5 : decode prog_13_method_136_code 5 = .ok (.irem, 1) := by decide +kernel
theorem d355_6 : decode prog_13_method_136_code 6 = .ok (.istore_n 2, 1) := by decide +kernel
theorem d355_7 : decode prog_13_method_136_code 7 = .ok (.iload_n 2, 1) := by decide +kernel
theorem d355_8 : decode prog_13_method_136_code 8 = .ok (.iconst 1, 1) := by decide +kernel
theorem d355_9 : decode prog_13_method_136_code 9 = .ok (.iadd, 1) := by decide +kernel
theorem d355_10 : decode prog_13_method_136_code 10 = .ok (.iload_n 0, 1) := by decide +kernel
theorem d355_11 : decode prog_13_method_136_code 11 = .ok (.invokestatic 514, 3) := by decide +kernel
theorem d355_14 : decode prog_13_method_136_code 14 = .ok (.iconst 2, 1) := by decide +kernel
theorem d355_15 : decode prog_13_method_136_code 15 = .ok (.idiv, 1) := by decide +kernel
theorem d355_16 : decode prog_13_method_136_code 16 = .ok (.iadd, 1) := by decide +kernel
theorem d355_17 : decode prog_13_method_136_code 17 = .ok (.istore_n 3, 1) := by decide +kernel
theorem d355_18 : decode prog_13_method_136_code 18 = .ok (.iload_n 1, 1) := by decide +kernel
theorem d355_19 : decode prog_13_method_136_code 19 = .ok (.iload_n 2, 1) := by decide +kernel
theorem d355_20 : decode prog_13_method_136_code 20 = .ok (.if_icmp .lt 13, 3) := by decide +kernel
theorem d355_23 : decode prog_13_method_136_code 23 = .ok (.iload_n 1, 1) := by decide +kernel
theorem d355_24 : decode prog_13_method_136_code 24 = .ok (.iload_n 2, 1) := by decide +kernel
theorem d355_25 : decode prog_13_method_136_code 25 = .ok (.if_icmp .le 11, 3) := by decide +kernel
theorem d355_28 : decode prog_13_method_136_code 28 = .ok (.iload_n 1, 1) := by decide +kernel
theorem d355_29 : decode prog_13_method_136_code 29 = .ok (.iload_n 3, 1) := by decide +kernel
theorem d355_30 : decode prog_13_method_136_code 30 = .ok (.if_icmp .ge 6, 3) := by decide +kernel
theorem d355_33 : decode prog_13_method_136_code 33 = .ok (.bipush 36, 2) := by decide +kernel
theorem d355_35 : decode prog_13_method_136_code 35 = .ok (.ireturn, 1) := by decide +kernel
theorem d355_36 : decode prog_13_method_136_code 36 = .ok (.iload_n 1, 1) := by decide +kernel
theorem d355_37 : decode prog_13_method_136_code 37 = .ok (.iload_n 2, 1) := by decide +kernel
theorem d355_38 : decode prog_13_method_136_code 38 = .ok (.if_icmp .ne 16, 3) := by decide +kernel
theorem d355_41 : decode prog_13_method_136_code 41 = .ok (.bipush 65, 2) := by decide +kernel
theorem d355_43 : decode prog_13_method_136_code 43 = .ok (.iload_n 0, 1) := by decide +kernel
theorem d355_44 : decode prog_13_method_136_code 44 = .ok (.invokestatic 140, 3) := by decide +kernel
theorem k355_140_99 : xCa (xMo 355) 140 99 = some (0, 224, 1) := by decide +kernel
theorem d355_47 : decode prog_13_method_136_code 47 = .ok (.bipush 10, 2) := by decide +kernel
theorem d355_49 : decode prog_13_method_136_code 49 = .ok (.irem, 1) := by decide +kernel
theorem d355_50 : decode prog_13_method_136_code 50 = .ok (.iadd, 1) := by decide +kernel
theorem d355_51 : decode prog_13_method_136_code 51 = .ok (.goto 18, 3) := by decide +kernel
theorem d355_54 : decode prog_13_method_136_code 54 = .ok (.iload_n 0, 1) := by decide +kernel
theorem d355_55 : decode prog_13_method_136_code 55 = .ok (.invokestatic 140, 3) := by decide +kernel
theorem d355_58 : decode prog_13_method_136_code 58 = .ok (.bipush 10, 2) := by decide +kernel
theorem d355_60 : decode prog_13_method_136_code 60 = .ok (.idiv, 1) := by decide +kernel
theorem d355_61 : decode prog_13_method_136_code 61 = .ok (.iconst 1, 1) := by decide +kernel
theorem d355_62 : decode prog_13_method_136_code 62 = .ok (.iadd, 1) := by decide +kernel
theorem d355_63 : decode prog_13_method_136_code 63 = .ok (.iload_n 1, 1) := by decide +kernel
theorem d355_64 : decode prog_13_method_136_code 64 = .ok (.iload_n 3, 1) := by decide +kernel
theorem d355_65 : decode prog_13_method_136_code 65 = .ok (.isub, 1) := by decide +kernel
theorem d355_66 : decode prog_13_method_136_code 66 = .ok (.invokestatic 531, 3) := by decide +kernel
theorem k355_531_99 : xCa (xMo 355) 531 99 = some (0, 354, 2) := by decide +kernel
theorem d355_69 : decode prog_13_method_136_code 69 = .ok (.ireturn, 1) := by decide +kernel
set_option maxRecDepth 100000 in
theorem q356 : xMc 356 = prog_13_method_140_code := rfl
theorem m356 : xMl 356 = 4 ∧ xMret 356 = (some FieldType.int) ∧ xMh 356 = [] := by decide +kernel
theorem e356 {X : xX} {d : Nat} {w : xH} {Q : xO → xH → Prop} (a : Nat) (x0 : Int32) : Cw X d 356 [.ref a, .int x0] w Q = Wx X d 356 0 [some (.ref a), some (.int x0), none, none] [] w Q := by
  unfold Cw
  rw [m356.1]
  rfl
theorem d356_0 : decode prog_13_method_140_code 0 = .ok (.aload_n 0, 1) := by decide +kernel
theorem d356_1 : decode prog_13_method_140_code 1 = .ok (.iload_n 1, 1) := by decide +kernel
theorem d356_2 : decode prog_13_method_140_code 2 = .ok (.invokestatic 392, 3) := by decide +kernel
theorem k356_392_99 : xCa (xMo 356) 392 99 = some (0, 262, 1) := by decide +kernel
theorem d356_5 : decode prog_13_method_140_code 5 = .ok (.invokevirtual 395, 3) := by decide +kernel
theorem k356_395_11 : xCa (xMo 356) 395 11 = some (1, 263, 1) := by decide +kernel
theorem n356_395 : xcn (xMo 356) 395 = some 1 := by decide +kernel
theorem d356_8 : decode prog_13_method_140_code 8 = .ok (.ifCond .ne 5, 3) := by decide +kernel
theorem d356_11 : decode prog_13_method_140_code 11 = .ok (.iconst 0, 1) := by decide +kernel
theorem d356_12 : decode prog_13_method_140_code 12 = .ok (.ireturn, 1) := by decide +kernel
theorem d356_13 : decode prog_13_method_140_code 13 = .ok (.iconst 0, 1) := by decide +kernel
theorem d356_14 : decode prog_13_method_140_code 14 = .ok (.istore_n 2, 1) := by decide +kernel
theorem d356_15 : decode prog_13_method_140_code 15 = .ok (.iconst 0, 1) := by decide +kernel
theorem d356_16 : decode prog_13_method_140_code 16 = .ok (.istore_n 3, 1) := by decide +kernel
theorem d356_17 : decode prog_13_method_140_code 17 = .ok (.iload_n 3, 1) := by decide +kernel
theorem d356_18 : decode prog_13_method_140_code 18 = .ok (.sipush 200, 3) := by decide +kernel
theorem d356_21 : decode prog_13_method_140_code 21 = .ok (.if_icmp .ge 26, 3) := by decide +kernel
theorem d356_24 : decode prog_13_method_140_code 24 = .ok (.iload_n 2, 1) := by decide +kernel
theorem d356_25 : decode prog_13_method_140_code 25 = .ok (.aload_n 0, 1) := by decide +kernel
theorem d356_26 : decode prog_13_method_140_code 26 = .ok (.iload_n 1, 1) := by decide +kernel
theorem d356_27 : decode prog_13_method_140_code 27 = .ok (.iload_n 3, 1) := by decide +kernel
theorem d356_28 : decode prog_13_method_140_code 28 = .ok (.invokevirtual 234, 3) := by decide +kernel
theorem k356_234_11 : xCa (xMo 356) 234 11 = some (1, 275, 2) := by decide +kernel
theorem n356_234 : xcn (xMo 356) 234 = some 2 := by decide +kernel
theorem d356_31 : decode prog_13_method_140_code 31 = .ok (.ifCond .eq 7, 3) := by decide +kernel
theorem d356_34 : decode prog_13_method_140_code 34 = .ok (.iconst 1, 1) := by decide +kernel
theorem d356_35 : decode prog_13_method_140_code 35 = .ok (.goto 4, 3) := by decide +kernel
theorem d356_38 : decode prog_13_method_140_code 38 = .ok (.iconst 0, 1) := by decide +kernel
theorem d356_39 : decode prog_13_method_140_code 39 = .ok (.iadd, 1) := by decide +kernel
theorem d356_40 : decode prog_13_method_140_code 40 = .ok (.istore_n 2, 1) := by decide +kernel
theorem d356_41 : decode prog_13_method_140_code 41 = .ok (.iinc 3 1, 3) := by decide +kernel
theorem d356_44 : decode prog_13_method_140_code 44 = .ok (.goto (-27), 3) := by decide +kernel
theorem d356_47 : decode prog_13_method_140_code 47 = .ok (.iload_n 2, 1) := by decide +kernel
theorem d356_48 : decode prog_13_method_140_code 48 = .ok (.ireturn, 1) := by decide +kernel
set_option maxRecDepth 100000 in
theorem q357 : xMc 357 = prog_13_method_141_code := rfl
theorem m357 : xMl 357 = 5 ∧ xMret 357 = (some FieldType.int) ∧ xMh 357 = [] := by decide +kernel
theorem e357 {X : xX} {d : Nat} {w : xH} {Q : xO → xH → Prop} (a : Nat) (x0 : Int32) (x1 : Int32) : Cw X d 357 [.ref a, .int x0, .int x1] w Q = Wx X d 357 0 [some (.ref a), some (.int x0), some (.int x1), none, none] [] w Q := by
  unfold Cw
  rw [m357.1]
  rfl
theorem d357_0 : decode prog_13_method_141_code 0 = .ok (.aload_n 0, 1) := by decide +kernel
theorem d357_1 : decode prog_13_method_141_code 1 = .ok (.iload_n 1, 1) := by decide +kernel
theorem d357_2 : decode prog_13_method_141_code 2 = .ok (.invokestatic 392, 3) := by decide +kernel
theorem k357_392_99 : xCa (xMo 357) 392 99 = some (0, 262, 1) := by decide +kernel
theorem d357_5 : decode prog_13_method_141_code 5 = .ok (.ifCond .eq 11, 3) := by decide +kernel
theorem d357_8 : decode prog_13_method_141_code 8 = .ok (.iload_n 2, 1) := by decide +kernel
theorem d357_9 : decode prog_13_method_141_code 9 = .ok (.ifCond .lt 7, 3) := by decide +kernel
theorem d357_12 : decode prog_13_method_141_code 12 = .ok (.iconst 1, 1) := by decide +kernel
theorem d357_13 : decode prog_13_method_141_code 13 = .ok (.goto 4, 3) := by decide +kernel
theorem d357_16 : decode prog_13_method_141_code 16 = .ok (.iconst 0, 1) := by decide +kernel
theorem d357_17 : decode prog_13_method_141_code 17 = .ok (.invokevirtual 395, 3) := by decide +kernel
theorem k357_395_11 : xCa (xMo 357) 395 11 = some (1, 263, 1) := by decide +kernel
theorem n357_395 : xcn (xMo 357) 395 = some 1 := by decide +kernel
theorem d357_20 : decode prog_13_method_141_code 20 = .ok (.ifCond .ne 5, 3) := by decide +kernel
theorem d357_23 : decode prog_13_method_141_code 23 = .ok (.iconst 0, 1) := by decide +kernel
theorem d357_24 : decode prog_13_method_141_code 24 = .ok (.ireturn, 1) := by decide +kernel
theorem d357_25 : decode prog_13_method_141_code 25 = .ok (.iload_n 2, 1) := by decide +kernel
theorem d357_26 : decode prog_13_method_141_code 26 = .ok (.istore_n 3, 1) := by decide +kernel
theorem d357_27 : decode prog_13_method_141_code 27 = .ok (.iconst 0, 1) := by decide +kernel
theorem d357_28 : decode prog_13_method_141_code 28 = .ok (.istore 4, 2) := by decide +kernel
theorem d357_30 : decode prog_13_method_141_code 30 = .ok (.iload 4, 2) := by decide +kernel
theorem d357_32 : decode prog_13_method_141_code 32 = .ok (.sipush 200, 3) := by decide +kernel
theorem d357_35 : decode prog_13_method_141_code 35 = .ok (.if_icmp .ge 29, 3) := by decide +kernel
theorem d357_38 : decode prog_13_method_141_code 38 = .ok (.aload_n 0, 1) := by decide +kernel
theorem d357_39 : decode prog_13_method_141_code 39 = .ok (.iload_n 1, 1) := by decide +kernel
theorem d357_40 : decode prog_13_method_141_code 40 = .ok (.iload 4, 2) := by decide +kernel
theorem d357_42 : decode prog_13_method_141_code 42 = .ok (.invokevirtual 234, 3) := by decide +kernel
theorem k357_234_11 : xCa (xMo 357) 234 11 = some (1, 275, 2) := by decide +kernel
theorem n357_234 : xcn (xMo 357) 234 = some 2 := by decide +kernel
theorem d357_45 : decode prog_13_method_141_code 45 = .ok (.ifCond .eq 13, 3) := by decide +kernel
theorem d357_48 : decode prog_13_method_141_code 48 = .ok (.iload_n 3, 1) := by decide +kernel
theorem d357_49 : decode prog_13_method_141_code 49 = .ok (.ifCond .ne 6, 3) := by decide +kernel
theorem d357_52 : decode prog_13_method_141_code 52 = .ok (.iload 4, 2) := by decide +kernel
theorem d357_54 : decode prog_13_method_141_code 54 = .ok (.ireturn, 1) := by decide +kernel
theorem d357_55 : decode prog_13_method_141_code 55 = .ok (.iinc 3 (-1), 3) := by decide +kernel
theorem d357_58 : decode prog_13_method_141_code 58 = .ok (.iinc 4 1, 3) := by decide +kernel
theorem d357_61 : decode prog_13_method_141_code 61 = .ok (.goto (-31), 3) := by decide +kernel
theorem d357_64 : decode prog_13_method_141_code 64 = .ok (.iconst (-1), 1) := by decide +kernel
theorem d357_65 : decode prog_13_method_141_code 65 = .ok (.ireturn, 1) := by decide +kernel
set_option maxRecDepth 100000 in
theorem q358 : xMc 358 = prog_13_method_142_code := rfl
theorem m358 : xMl 358 = 4 ∧ xMret 358 = (some FieldType.int) ∧ xMh 358 = [] := by decide +kernel
theorem e358 {X : xX} {d : Nat} {w : xH} {Q : xO → xH → Prop} (a : Nat) (x0 : Int32) : Cw X d 358 [.ref a, .int x0] w Q = Wx X d 358 0 [some (.ref a), some (.int x0), none, none] [] w Q := by
  unfold Cw
  rw [m358.1]
  rfl
theorem d358_0 : decode prog_13_method_142_code 0 = .ok (.aload_n 0, 1) := by decide +kernel
theorem d358_1 : decode prog_13_method_142_code 1 = .ok (.iload_n 1, 1) := by decide +kernel
theorem d358_2 : decode prog_13_method_142_code 2 = .ok (.invokestatic 392, 3) := by decide +kernel
theorem k358_392_99 : xCa (xMo 358) 392 99 = some (0, 262, 1) := by decide +kernel
theorem d358_5 : decode prog_13_method_142_code 5 = .ok (.invokevirtual 395, 3) := by decide +kernel
theorem k358_395_11 : xCa (xMo 358) 395 11 = some (1, 263, 1) := by decide +kernel
theorem n358_395 : xcn (xMo 358) 395 = some 1 := by decide +kernel
theorem d358_8 : decode prog_13_method_142_code 8 = .ok (.ifCond .ne 5, 3) := by decide +kernel
theorem d358_11 : decode prog_13_method_142_code 11 = .ok (.iconst 0, 1) := by decide +kernel
theorem d358_12 : decode prog_13_method_142_code 12 = .ok (.ireturn, 1) := by decide +kernel
theorem d358_13 : decode prog_13_method_142_code 13 = .ok (.iconst 0, 1) := by decide +kernel
theorem d358_14 : decode prog_13_method_142_code 14 = .ok (.istore_n 2, 1) := by decide +kernel
theorem d358_15 : decode prog_13_method_142_code 15 = .ok (.iconst 0, 1) := by decide +kernel
theorem d358_16 : decode prog_13_method_142_code 16 = .ok (.istore_n 3, 1) := by decide +kernel
theorem d358_17 : decode prog_13_method_142_code 17 = .ok (.iload_n 3, 1) := by decide +kernel
theorem d358_18 : decode prog_13_method_142_code 18 = .ok (.sipush 200, 3) := by decide +kernel
theorem d358_21 : decode prog_13_method_142_code 21 = .ok (.if_icmp .ge 26, 3) := by decide +kernel
theorem d358_24 : decode prog_13_method_142_code 24 = .ok (.iload_n 2, 1) := by decide +kernel
theorem d358_25 : decode prog_13_method_142_code 25 = .ok (.aload_n 0, 1) := by decide +kernel
theorem d358_26 : decode prog_13_method_142_code 26 = .ok (.iload_n 3, 1) := by decide +kernel
theorem d358_27 : decode prog_13_method_142_code 27 = .ok (.iload_n 1, 1) := by decide +kernel
theorem d358_28 : decode prog_13_method_142_code 28 = .ok (.invokevirtual 234, 3) := by decide +kernel
theorem k358_234_11 : xCa (xMo 358) 234 11 = some (1, 275, 2) := by decide +kernel
theorem n358_234 : xcn (xMo 358) 234 = some 2 := by decide +kernel
theorem d358_31 : decode prog_13_method_142_code 31 = .ok (.ifCond .eq 7, 3) := by decide +kernel
theorem d358_34 : decode prog_13_method_142_code 34 = .ok (.iconst 1, 1) := by decide +kernel
theorem d358_35 : decode prog_13_method_142_code 35 = .ok (.goto 4, 3) := by decide +kernel
theorem d358_38 : decode prog_13_method_142_code 38 = .ok (.iconst 0, 1) := by decide +kernel
theorem d358_39 : decode prog_13_method_142_code 39 = .ok (.iadd, 1) := by decide +kernel
theorem d358_40 : decode prog_13_method_142_code 40 = .ok (.istore_n 2, 1) := by decide +kernel
theorem d358_41 : decode prog_13_method_142_code 41 = .ok (.iinc 3 1, 3) := by decide +kernel
theorem d358_44 : decode prog_13_method_142_code 44 = .ok (.goto (-27), 3) := by decide +kernel
theorem d358_47 : decode prog_13_method_142_code 47 = .ok (.iload_n 2, 1) := by decide +kernel
theorem d358_48 : decode prog_13_method_142_code 48 = .ok (.ireturn, 1) := by decide +kernel
set_option maxRecDepth 100000 in
theorem q359 : xMc 359 = prog_13_method_143_code := rfl
theorem m359 : xMl 359 = 2 ∧ xMret 359 = (some FieldType.int) ∧ xMh 359 = [] := by decide +kernel
theorem e359 {X : xX} {d : Nat} {w : xH} {Q : xO → xH → Prop} (a : Nat) (x0 : Int32) : Cw X d 359 [.ref a, .int x0] w Q = Wx X d 359 0 [some (.ref a), some (.int x0)] [] w Q := by
  unfold Cw
  rw [m359.1]
  rfl
theorem d359_0 : decode prog_13_method_143_code 0 = .ok (.aload_n 0, 1) := by decide +kernel
theorem d359_1 : decode prog_13_method_143_code 1 = .ok (.iload_n 1, 1) := by decide +kernel
theorem d359_2 : decode prog_13_method_143_code 2 = .ok (.invokestatic 392, 3) := by decide +kernel
theorem k359_392_99 : xCa (xMo 359) 392 99 = some (0, 262, 1) := by decide +kernel
theorem d359_5 : decode prog_13_method_143_code 5 = .ok (.invokevirtual 395, 3) := by decide +kernel
theorem k359_395_11 : xCa (xMo 359) 395 11 = some (1, 263, 1) := by decide +kernel
theorem n359_395 : xcn (xMo 359) 395 = some 1 := by decide +kernel
theorem d359_8 : decode prog_13_method_143_code 8 = .ok (.ifCond .ne 5, 3) := by decide +kernel
theorem d359_11 : decode prog_13_method_143_code 11 = .ok (.iconst 0, 1) := by decide +kernel
theorem d359_12 : decode prog_13_method_143_code 12 = .ok (.ireturn, 1) := by decide +kernel
theorem d359_13 : decode prog_13_method_143_code 13 = .ok (.aload_n 0, 1) := by decide +kernel
theorem d359_14 : decode prog_13_method_143_code 14 = .ok (.iload_n 1, 1) := by decide +kernel
theorem d359_15 : decode prog_13_method_143_code 15 = .ok (.invokevirtual 264, 3) := by decide +kernel
theorem k359_264_11 : xCa (xMo 359) 264 11 = some (1, 296, 1) := by decide +kernel
theorem n359_264 : xcn (xMo 359) 264 = some 1 := by decide +kernel
theorem d359_18 : decode prog_13_method_143_code 18 = .ok (.aload_n 0, 1) := by decide +kernel
theorem d359_19 : decode prog_13_method_143_code 19 = .ok (.getfield 41, 3) := by decide +kernel
theorem f359_41 : xFd (xMo 359) 41 = some (11, 15) := by decide +kernel
theorem d359_22 : decode prog_13_method_143_code 22 = .ok (.invokestatic 267, 3) := by decide +kernel
theorem k359_267_99 : xCa (xMo 359) 267 99 = some (0, 298, 1) := by decide +kernel
theorem d359_25 : decode prog_13_method_143_code 25 = .ok (.ireturn, 1) := by decide +kernel
set_option maxRecDepth 100000 in
theorem q360 : xMc 360 = prog_13_method_144_code := rfl
theorem m360 : xMl 360 = 3 ∧ xMret 360 = (some FieldType.boolean) ∧ xMh 360 = [] := by decide +kernel
theorem e360 {X : xX} {d : Nat} {w : xH} {Q : xO → xH → Prop} (a : Nat) (x0 : Int32) (x1 : Int32) : Cw X d 360 [.ref a, .int x0, .int x1] w Q = Wx X d 360 0 [some (.ref a), some (.int x0), some (.int x1)] [] w Q := by
  unfold Cw
  rw [m360.1]
  rfl
theorem d360_0 : decode prog_13_method_144_code 0 = .ok (.aload_n 0, 1) := by decide +kernel
theorem d360_1 : decode prog_13_method_144_code 1 = .ok (.iload_n 1, 1) := by decide +kernel
theorem d360_2 : decode prog_13_method_144_code 2 = .ok (.invokestatic 392, 3) := by decide +kernel
theorem k360_392_99 : xCa (xMo 360) 392 99 = some (0, 262, 1) := by decide +kernel
theorem d360_5 : decode prog_13_method_144_code 5 = .ok (.ifCond .eq 14, 3) := by decide +kernel
theorem d360_8 : decode prog_13_method_144_code 8 = .ok (.iload_n 2, 1) := by decide +kernel
theorem d360_9 : decode prog_13_method_144_code 9 = .ok (.invokestatic 392, 3) := by decide +kernel
theorem d360_12 : decode prog_13_method_144_code 12 = .ok (.ifCond .eq 7, 3) := by decide +kernel
theorem d360_15 : decode prog_13_method_144_code 15 = .ok (.iconst 1, 1) := by decide +kernel
theorem d360_16 : decode prog_13_method_144_code 16 = .ok (.goto 4, 3) := by decide +kernel
theorem d360_19 : decode prog_13_method_144_code 19 = .ok (.iconst 0, 1) := by decide +kernel
theorem d360_20 : decode prog_13_method_144_code 20 = .ok (.invokevirtual 395, 3) := by decide +kernel
theorem k360_395_11 : xCa (xMo 360) 395 11 = some (1, 263, 1) := by decide +kernel
theorem n360_395 : xcn (xMo 360) 395 = some 1 := by decide +kernel
theorem d360_23 : decode prog_13_method_144_code 23 = .ok (.ifCond .ne 5, 3) := by decide +kernel
theorem d360_26 : decode prog_13_method_144_code 26 = .ok (.iconst 0, 1) := by decide +kernel
theorem d360_27 : decode prog_13_method_144_code 27 = .ok (.ireturn, 1) := by decide +kernel
theorem d360_28 : decode prog_13_method_144_code 28 = .ok (.aload_n 0, 1) := by decide +kernel
theorem d360_29 : decode prog_13_method_144_code 29 = .ok (.iload_n 2, 1) := by decide +kernel
theorem d360_30 : decode prog_13_method_144_code 30 = .ok (.invokevirtual 264, 3) := by decide +kernel
theorem k360_264_11 : xCa (xMo 360) 264 11 = some (1, 296, 1) := by decide +kernel
theorem n360_264 : xcn (xMo 360) 264 = some 1 := by decide +kernel
theorem d360_33 : decode prog_13_method_144_code 33 = .ok (.aload_n 0, 1) := by decide +kernel
theorem d360_34 : decode prog_13_method_144_code 34 = .ok (.getfield 41, 3) := by decide +kernel
theorem f360_41 : xFd (xMo 360) 41 = some (11, 15) := by decide +kernel
theorem d360_37 : decode prog_13_method_144_code 37 = .ok (.iload_n 1, 1) := by decide +kernel
theorem d360_38 : decode prog_13_method_144_code 38 = .ok (.invokestatic 257, 3) := by decide +kernel
theorem k360_257_99 : xCa (xMo 360) 257 99 = some (0, 297, 2) := by decide +kernel
theorem d360_41 : decode prog_13_method_144_code 41 = .ok (.ireturn, 1) := by decide +kernel
set_option maxRecDepth 100000 in
theorem q361 : xMc 361 = prog_13_method_145_code := rfl
theorem m361 : xMl 361 = 2 ∧ xMret 361 = (some FieldType.boolean) ∧ xMh 361 = [] := by decide +kernel
theorem e361 {X : xX} {d : Nat} {w : xH} {Q : xO → xH → Prop} (a : Nat) (x0 : Int32) : Cw X d 361 [.ref a, .int x0] w Q = Wx X d 361 0 [some (.ref a), some (.int x0)] [] w Q := by
  unfold Cw
  rw [m361.1]
  rfl
theorem d361_0 : decode prog_13_method_145_code 0 = .ok (.aload_n 0, 1) := by decide +kernel
theorem d361_1 : decode prog_13_method_145_code 1 = .ok (.iload_n 1, 1) := by decide +kernel
theorem d361_2 : decode prog_13_method_145_code 2 = .ok (.invokestatic 392, 3) := by decide +kernel
theorem k361_392_99 : xCa (xMo 361) 392 99 = some (0, 262, 1) := by decide +kernel
theorem d361_5 : decode prog_13_method_145_code 5 = .ok (.invokevirtual 395, 3) := by decide +kernel
theorem k361_395_11 : xCa (xMo 361) 395 11 = some (1, 263, 1) := by decide +kernel
theorem n361_395 : xcn (xMo 361) 395 = some 1 := by decide +kernel
theorem d361_8 : decode prog_13_method_145_code 8 = .ok (.ifCond .ne 5, 3) := by decide +kernel
theorem d361_11 : decode prog_13_method_145_code 11 = .ok (.iconst 0, 1) := by decide +kernel
theorem d361_12 : decode prog_13_method_145_code 12 = .ok (.ireturn, 1) := by decide +kernel
theorem d361_13 : decode prog_13_method_145_code 13 = .ok (.aload_n 0, 1) := by decide +kernel
theorem d361_14 : decode prog_13_method_145_code 14 = .ok (.iload_n 1, 1) := by decide +kernel
theorem d361_15 : decode prog_13_method_145_code 15 = .ok (.invokevirtual 264, 3) := by decide +kernel
theorem k361_264_11 : xCa (xMo 361) 264 11 = some (1, 296, 1) := by decide +kernel
theorem n361_264 : xcn (xMo 361) 264 = some 1 := by decide +kernel
theorem d361_18 : decode prog_13_method_145_code 18 = .ok (.aload_n 0, 1) := by decide +kernel
theorem d361_19 : decode prog_13_method_145_code 19 = .ok (.getfield 41, 3) := by decide +kernel
theorem f361_41 : xFd (xMo 361) 41 = some (11, 15) := by decide +kernel
theorem d361_22 : decode prog_13_method_145_code 22 = .ok (.iload_n 1, 1) := by decide +kernel
theorem d361_23 : decode prog_13_method_145_code 23 = .ok (.invokestatic 257, 3) := by decide +kernel
theorem k361_257_99 : xCa (xMo 361) 257 99 = some (0, 297, 2) := by decide +kernel
theorem d361_26 : decode prog_13_method_145_code 26 = .ok (.ireturn, 1) := by decide +kernel
set_option maxRecDepth 100000 in
theorem q362 : xMc 362 = prog_13_method_146_code := rfl
theorem m362 : xMl 362 = 2 ∧ xMret 362 = (some FieldType.int) ∧ xMh 362 = [] := by decide +kernel
theorem e362 {X : xX} {d : Nat} {w : xH} {Q : xO → xH → Prop} (a : Nat) (x0 : Int32) : Cw X d 362 [.ref a, .int x0] w Q = Wx X d 362 0 [some (.ref a), some (.int x0)] [] w Q := by
  unfold Cw
  rw [m362.1]
  rfl
theorem d362_0 : decode prog_13_method_146_code 0 = .ok (.aload_n 0, 1) := by decide +kernel
theorem d362_1 : decode prog_13_method_146_code 1 = .ok (.iload_n 1, 1) := by decide +kernel
theorem d362_2 : decode prog_13_method_146_code 2 = .ok (.invokestatic 392, 3) := by decide +kernel
theorem k362_392_99 : xCa (xMo 362) 392 99 = some (0, 262, 1) := by decide +kernel
theorem d362_5 : decode prog_13_method_146_code 5 = .ok (.invokevirtual 395, 3) := by decide +kernel
theorem k362_395_11 : xCa (xMo 362) 395 11 = some (1, 263, 1) := by decide +kernel
theorem n362_395 : xcn (xMo 362) 395 = some 1 := by decide +kernel
theorem d362_8 : decode prog_13_method_146_code 8 = .ok (.ifCond .eq 12, 3) := by decide +kernel
theorem d362_11 : decode prog_13_method_146_code 11 = .ok (.aload_n 0, 1) := by decide +kernel
theorem d362_12 : decode prog_13_method_146_code 12 = .ok (.getfield 65, 3) := by decide +kernel
theorem f362_65 : xFd (xMo 362) 65 = some (11, 28) := by decide +kernel
theorem d362_15 : decode prog_13_method_146_code 15 = .ok (.iload_n 1, 1) := by decide +kernel
theorem d362_16 : decode prog_13_method_146_code 16 = .ok (.iaload, 1) := by decide +kernel
theorem d362_17 : decode prog_13_method_146_code 17 = .ok (.goto 4, 3) := by decide +kernel
theorem d362_20 : decode prog_13_method_146_code 20 = .ok (.iconst 0, 1) := by decide +kernel
theorem d362_21 : decode prog_13_method_146_code 21 = .ok (.ireturn, 1) := by decide +kernel
set_option maxRecDepth 100000 in
theorem q363 : xMc 363 = prog_13_method_147_code := rfl
theorem m363 : xMl 363 = 2 ∧ xMret 363 = (some FieldType.int) ∧ xMh 363 = [] := by decide +kernel
theorem e363 {X : xX} {d : Nat} {w : xH} {Q : xO → xH → Prop} (a : Nat) (x0 : Int32) : Cw X d 363 [.ref a, .int x0] w Q = Wx X d 363 0 [some (.ref a), some (.int x0)] [] w Q := by
  unfold Cw
  rw [m363.1]
  rfl
theorem d363_0 : decode prog_13_method_147_code 0 = .ok (.aload_n 0, 1) := by decide +kernel
theorem d363_1 : decode prog_13_method_147_code 1 = .ok (.iload_n 1, 1) := by decide +kernel
theorem d363_2 : decode prog_13_method_147_code 2 = .ok (.ifCond .lt 7, 3) := by decide +kernel
theorem d363_5 : decode prog_13_method_147_code 5 = .ok (.iconst 1, 1) := by decide +kernel
theorem d363_6 : decode prog_13_method_147_code 6 = .ok (.goto 4, 3) := by decide +kernel
theorem d363_9 : decode prog_13_method_147_code 9 = .ok (.iconst 0, 1) := by decide +kernel
theorem d363_10 : decode prog_13_method_147_code 10 = .ok (.invokevirtual 395, 3) := by decide +kernel
theorem k363_395_11 : xCa (xMo 363) 395 11 = some (1, 263, 1) := by decide +kernel
theorem n363_395 : xcn (xMo 363) 395 = some 1 := by decide +kernel
theorem d363_13 : decode prog_13_method_147_code 13 = .ok (.ifCond .ne 5, 3) := by decide +kernel
theorem d363_16 : decode prog_13_method_147_code 16 = .ok (.iconst 0, 1) := by decide +kernel
theorem d363_17 : decode prog_13_method_147_code 17 = .ok (.ireturn, 1) := by decide +kernel
theorem d363_18 : decode prog_13_method_147_code 18 = .ok (.iload_n 1, 1) := by decide +kernel
theorem d363_19 : decode prog_13_method_147_code 19 = .ok (.aload_n 0, 1) := by decide +kernel
theorem d363_20 : decode prog_13_method_147_code 20 = .ok (.getfield 237, 3) := by decide +kernel
theorem f363_237 : xFd (xMo 363) 237 = some (11, 30) := by decide +kernel
theorem d363_23 : decode prog_13_method_147_code 23 = .ok (.if_icmp .ge 12, 3) := by decide +kernel
theorem d363_26 : decode prog_13_method_147_code 26 = .ok (.aload_n 0, 1) := by decide +kernel
theorem d363_27 : decode prog_13_method_147_code 27 = .ok (.getfield 62, 3) := by decide +kernel
theorem f363_62 : xFd (xMo 363) 62 = some (11, 27) := by decide +kernel
theorem d363_30 : decode prog_13_method_147_code 30 = .ok (.iload_n 1, 1) := by decide +kernel
theorem d363_31 : decode prog_13_method_147_code 31 = .ok (.iaload, 1) := by decide +kernel
theorem d363_32 : decode prog_13_method_147_code 32 = .ok (.goto 4, 3) := by decide +kernel
theorem d363_35 : decode prog_13_method_147_code 35 = .ok (.iconst (-1), 1) := by decide +kernel
theorem d363_36 : decode prog_13_method_147_code 36 = .ok (.ireturn, 1) := by decide +kernel
set_option maxRecDepth 100000 in
theorem q364 : xMc 364 = prog_13_method_148_code := rfl
theorem m364 : xMl 364 = 2 ∧ xMret 364 = (some FieldType.int) ∧ xMh 364 = [] := by decide +kernel
theorem e364 {X : xX} {d : Nat} {w : xH} {Q : xO → xH → Prop} (a : Nat) (x0 : Int32) : Cw X d 364 [.ref a, .int x0] w Q = Wx X d 364 0 [some (.ref a), some (.int x0)] [] w Q := by
  unfold Cw
  rw [m364.1]
  rfl
theorem d364_0 : decode prog_13_method_148_code 0 = .ok (.aload_n 0, 1) := by decide +kernel
theorem d364_1 : decode prog_13_method_148_code 1 = .ok (.iload_n 1, 1) := by decide +kernel
theorem d364_2 : decode prog_13_method_148_code 2 = .ok (.invokestatic 392, 3) := by decide +kernel
theorem k364_392_99 : xCa (xMo 364) 392 99 = some (0, 262, 1) := by decide +kernel
theorem d364_5 : decode prog_13_method_148_code 5 = .ok (.invokevirtual 395, 3) := by decide +kernel
theorem k364_395_11 : xCa (xMo 364) 395 11 = some (1, 263, 1) := by decide +kernel
theorem n364_395 : xcn (xMo 364) 395 = some 1 := by decide +kernel
theorem d364_8 : decode prog_13_method_148_code 8 = .ok (.ifCond .ne 5, 3) := by decide +kernel
theorem d364_11 : decode prog_13_method_148_code 11 = .ok (.iconst 0, 1) := by decide +kernel
theorem d364_12 : decode prog_13_method_148_code 12 = .ok (.ireturn, 1) := by decide +kernel
theorem d364_13 : decode prog_13_method_148_code 13 = .ok (.aload_n 0, 1) := by decide +kernel
theorem d364_14 : decode prog_13_method_148_code 14 = .ok (.getfield 47, 3) := by decide +kernel
theorem f364_47 : xFd (xMo 364) 47 = some (11, 17) := by decide +kernel
theorem d364_17 : decode prog_13_method_148_code 17 = .ok (.iload_n 1, 1) := by decide +kernel
theorem d364_18 : decode prog_13_method_148_code 18 = .ok (.iaload, 1) := by decide +kernel
theorem d364_19 : decode prog_13_method_148_code 19 = .ok (.iconst 5, 1) := by decide +kernel
theorem d364_20 : decode prog_13_method_148_code 20 = .ok (.if_icmp .ne 11, 3) := by decide +kernel
theorem d364_23 : decode prog_13_method_148_code 23 = .ok (.aload_n 0, 1) := by decide +kernel
theorem d364_24 : decode prog_13_method_148_code 24 = .ok (.iconst 2, 1) := by decide +kernel
theorem d364_25 : decode prog_13_method_148_code 25 = .ok (.invokevirtual 382, 3) := by decide +kernel
theorem k364_382_11 : xCa (xMo 364) 382 11 = some (1, 233, 1) := by decide +kernel
theorem n364_382 : xcn (xMo 364) 382 = some 1 := by decide +kernel
theorem d364_28 : decode prog_13_method_148_code 28 = .ok (.goto 9, 3) := by decide +kernel
theorem d364_31 : decode prog_13_method_148_code 31 = .ok (.aload_n 0, 1) := by decide +kernel
theorem d364_32 : decode prog_13_method_148_code 32 = .ok (.getfield 68, 3) := by decide +kernel
theorem f364_68 : xFd (xMo 364) 68 = some (11, 29) := by decide +kernel
theorem d364_35 : decode prog_13_method_148_code 35 = .ok (.iload_n 1, 1) := by decide +kernel
theorem d364_36 : decode prog_13_method_148_code 36 = .ok (.iaload, 1) := by decide +kernel
theorem d364_37 : decode prog_13_method_148_code 37 = .ok (.ireturn, 1) := by decide +kernel
set_option maxRecDepth 100000 in
theorem q365 : xMc 365 = prog_13_method_149_code := rfl
theorem m365 : xMl 365 = 1 ∧ xMret 365 = (some FieldType.int) ∧ xMh 365 = [] := by decide +kernel
theorem e365 {X : xX} {d : Nat} {w : xH} {Q : xO → xH → Prop} (a : Nat) : Cw X d 365 [.ref a] w Q = Wx X d 365 0 [some (.ref a)] [] w Q := by
  unfold Cw
  rw [m365.1]
  rfl
theorem d365_0 : decode prog_13_method_149_code 0 = .ok (.aload_n 0, 1) := by decide +kernel
theorem d365_1 : decode prog_13_method_149_code 1 = .ok (.iconst 0, 1) := by decide +kernel
theorem d365_2 : decode prog_13_method_149_code 2 = .ok (.putfield 87, 3) := by decide +kernel
theorem f365_87 : xFd (xMo 365) 87 = some (11, 11) := by decide +kernel
theorem d365_5 : decode prog_13_method_149_code 5 = .ok (.sipush 200, 3) := by decide +kernel
theorem d365_8 : decode prog_13_method_149_code 8 = .ok (.aload_n 0, 1) := by decide +kernel
theorem d365_9 : decode prog_13_method_149_code 9 = .ok (.iconst 0, 1) := by decide +kernel
theorem d365_10 : decode prog_13_method_149_code 10 = .ok (.invokevirtual 273, 3) := by decide +kernel
theorem k365_273_11 : xCa (xMo 365) 273 11 = some (1, 304, 1) := by decide +kernel
theorem n365_273 : xcn (xMo 365) 273 = some 1 := by decide +kernel
theorem d365_13 : decode prog_13_method_149_code 13 = .ok (.isub, 1) := by decide +kernel
theorem d365_14 : decode prog_13_method_149_code 14 = .ok (.ireturn, 1) := by decide +kernel
set_option maxRecDepth 100000 in
theorem q366 : xMc 366 = prog_13_method_150_code := rfl
theorem m366 : xMl 366 = 1 ∧ xMret 366 = (some FieldType.int) ∧ xMh 366 = [] := by decide +kernel
theorem e366 {X : xX} {d : Nat} {w : xH} {Q : xO → xH → Prop} (a : Nat) : Cw X d 366 [.ref a] w Q = Wx X d 366 0 [some (.ref a)] [] w Q := by
  unfold Cw
  rw [m366.1]
  rfl
theorem d366_0 : decode prog_13_method_150_code 0 = .ok (.aload_n 0, 1) := by decide +kernel
theorem d366_1 : decode prog_13_method_150_code 1 = .ok (.iconst 0, 1) := by decide +kernel
theorem d366_2 : decode prog_13_method_150_code 2 = .ok (.putfield 87, 3) := by decide +kernel
theorem f366_87 : xFd (xMo 366) 87 = some (11, 11) := by decide +kernel
theorem d366_5 : decode prog_13_method_150_code 5 = .ok (.aload_n 0, 1) := by decide +kernel
theorem d366_6 : decode prog_13_method_150_code 6 = .ok (.iconst 2, 1) := by decide +kernel
theorem d366_7 : decode prog_13_method_150_code 7 = .ok (.invokevirtual 273, 3) := by decide +kernel
theorem k366_273_11 : xCa (xMo 366) 273 11 = some (1, 304, 1) := by decide +kernel
theorem n366_273 : xcn (xMo 366) 273 = some 1 := by decide +kernel
theorem d366_10 : decode prog_13_method_150_code 10 = .ok (.ireturn, 1) := by decide +kernel
set_option maxRecDepth 100000 in
theorem q367 : xMc 367 = prog_13_method_152_code := rfl
theorem m367 : xMl 367 = 1 ∧ xMret 367 = (some FieldType.int) ∧ xMh 367 = [] := by decide +kernel
theorem e367 {X : xX} {d : Nat} {w : xH} {Q : xO → xH → Prop} (a : Nat) : Cw X d 367 [.ref a] w Q = Wx X d 367 0 [some (.ref a)] [] w Q := by
  unfold Cw
  rw [m367.1]
  rfl
theorem d367_0 : decode prog_13_method_152_code 0 = .ok (.aload_n 0, 1) := by decide +kernel
theorem d367_1 : decode prog_13_method_152_code 1 = .ok (.iconst 0, 1) := by decide +kernel
theorem d367_2 : decode prog_13_method_152_code 2 = .ok (.putfield 87, 3) := by decide +kernel
theorem f367_87 : xFd (xMo 367) 87 = some (11, 11) := by decide +kernel
theorem d367_5 : decode prog_13_method_152_code 5 = .ok (.aload_n 0, 1) := by decide +kernel
theorem d367_6 : decode prog_13_method_152_code 6 = .ok (.invokevirtual 546, 3) := by decide +kernel
theorem k367_546_11 : xCa (xMo 367) 546 11 = some (1, 368, 0) := by decide +kernel
theorem n367_546 : xcn (xMo 367) 546 = some 0 := by decide +kernel
theorem d367_9 : decode prog_13_method_152_code 9 = .ok (.ireturn, 1) := by decide +kernel
set_option maxRecDepth 100000 in
theorem q368 : xMc 368 = prog_13_method_151_code := rfl
theorem m368 : xMl 368 = 3 ∧ xMret 368 = (some FieldType.int) ∧ xMh 368 = [] := by decide +kernel
theorem e368 {X : xX} {d : Nat} {w : xH} {Q : xO → xH → Prop} (a : Nat) : Cw X d 368 [.ref a] w Q = Wx X d 368 0 [some (.ref a), none, none] [] w Q := by
  unfold Cw
  rw [m368.1]
  rfl
theorem d368_0 : decode prog_13_method_151_code 0 = .ok (.iconst 0, 1) := by decide +kernel
theorem d368_1 : decode prog_13_method_151_code 1 = .ok (.istore_n 1, 1) := by decide +kernel
theorem d368_2 : decode prog_13_method_151_code 2 = .ok (.iconst 0, 1) := by decide +kernel
theorem d368_3 : decode prog_13_method_151_code 3 = .ok (.istore_n 2, 1) := by decide +kernel
theorem d368_4 : decode prog_13_method_151_code 4 = .ok (.iload_n 2, 1) := by decide +kernel
theorem d368_5 : decode prog_13_method_151_code 5 = .ok (.sipush 200, 3) := by decide +kernel
theorem d368_8 : decode prog_13_method_151_code 8 = .ok (.if_icmp .ge 26, 3) := by decide +kernel
theorem d368_11 : decode prog_13_method_151_code 11 = .ok (.iload_n 1, 1) := by decide +kernel
theorem d368_12 : decode prog_13_method_151_code 12 = .ok (.aload_n 0, 1) := by decide +kernel
theorem d368_13 : decode prog_13_method_151_code 13 = .ok (.getfield 47, 3) := by decide +kernel
theorem f368_47 : xFd (xMo 368) 47 = some (11, 17) := by decide +kernel
theorem d368_16 : decode prog_13_method_151_code 16 = .ok (.iload_n 2, 1) := by decide +kernel
theorem d368_17 : decode prog_13_method_151_code 17 = .ok (.iaload, 1) := by decide +kernel
theorem d368_18 : decode prog_13_method_151_code 18 = .ok (.ifCond .le 7, 3) := by decide +kernel
theorem d368_21 : decode prog_13_method_151_code 21 = .ok (.iconst 1, 1) := by decide +kernel
theorem d368_22 : decode prog_13_method_151_code 22 = .ok (.goto 4, 3) := by decide +kernel
theorem d368_25 : decode prog_13_method_151_code 25 = .ok (.iconst 0, 1) := by decide +kernel
theorem d368_26 : decode prog_13_method_151_code 26 = .ok (.iadd, 1) := by decide +kernel
theorem d368_27 : decode prog_13_method_151_code 27 = .ok (.istore_n 1, 1) := by decide +kernel
theorem d368_28 : decode prog_13_method_151_code 28 = .ok (.iinc 2 1, 3) := by decide +kernel
theorem d368_31 : decode prog_13_method_151_code 31 = .ok (.goto (-27), 3) := by decide +kernel
theorem d368_34 : decode prog_13_method_151_code 34 = .ok (.iload_n 1, 1) := by decide +kernel
theorem d368_35 : decode prog_13_method_151_code 35 = .ok (.ireturn, 1) := by decide +kernel
set_option maxRecDepth 100000 in
theorem q369 : xMc 369 = prog_13_method_153_code := rfl
theorem m369 : xMl 369 = 1 ∧ xMret 369 = (some FieldType.int) ∧ xMh 369 = [] := by decide +kernel
theorem e369 {X : xX} {d : Nat} {w : xH} {Q : xO → xH → Prop} (a : Nat) : Cw X d 369 [.ref a] w Q = Wx X d 369 0 [some (.ref a)] [] w Q := by
  unfold Cw
  rw [m369.1]
  rfl
theorem d369_0 : decode prog_13_method_153_code 0 = .ok (.aload_n 0, 1) := by decide +kernel
theorem d369_1 : decode prog_13_method_153_code 1 = .ok (.iconst 0, 1) := by decide +kernel
theorem d369_2 : decode prog_13_method_153_code 2 = .ok (.putfield 87, 3) := by decide +kernel
theorem f369_87 : xFd (xMo 369) 87 = some (11, 11) := by decide +kernel
theorem d369_5 : decode prog_13_method_153_code 5 = .ok (.aload_n 0, 1) := by decide +kernel
theorem d369_6 : decode prog_13_method_153_code 6 = .ok (.getfield 7, 3) := by decide +kernel
theorem f369_7 : xFd (xMo 369) 7 = some (11, 0) := by decide +kernel
theorem d369_9 : decode prog_13_method_153_code 9 = .ok (.sipush 600, 3) := by decide +kernel
theorem d369_12 : decode prog_13_method_153_code 12 = .ok (.iaload, 1) := by decide +kernel
theorem d369_13 : decode prog_13_method_153_code 13 = .ok (.ireturn, 1) := by decide +kernel
set_option maxRecDepth 100000 in
theorem q370 : xMc 370 = prog_13_method_154_code := rfl
theorem m370 : xMl 370 = 1 ∧ xMret 370 = (some FieldType.int) ∧ xMh 370 = [] := by decide +kernel
theorem e370 {X : xX} {d : Nat} {w : xH} {Q : xO → xH → Prop} (a : Nat) : Cw X d 370 [.ref a] w Q = Wx X d 370 0 [some (.ref a)] [] w Q := by
  unfold Cw
  rw [m370.1]
  rfl
theorem d370_0 : decode prog_13_method_154_code 0 = .ok (.aload_n 0, 1) := by decide +kernel
theorem d370_1 : decode prog_13_method_154_code 1 = .ok (.iconst 0, 1) := by decide +kernel
theorem d370_2 : decode prog_13_method_154_code 2 = .ok (.putfield 87, 3) := by decide +kernel
theorem f370_87 : xFd (xMo 370) 87 = some (11, 11) := by decide +kernel
theorem d370_5 : decode prog_13_method_154_code 5 = .ok (.aload_n 0, 1) := by decide +kernel
theorem d370_6 : decode prog_13_method_154_code 6 = .ok (.getfield 7, 3) := by decide +kernel
theorem f370_7 : xFd (xMo 370) 7 = some (11, 0) := by decide +kernel
theorem d370_9 : decode prog_13_method_154_code 9 = .ok (.sipush 601, 3) := by decide +kernel
theorem d370_12 : decode prog_13_method_154_code 12 = .ok (.iaload, 1) := by decide +kernel
theorem d370_13 : decode prog_13_method_154_code 13 = .ok (.ireturn, 1) := by decide +kernel
set_option maxRecDepth 100000 in
theorem q371 : xMc 371 = prog_13_method_156_code := rfl
theorem m371 : xMl 371 = 2 ∧ xMret 371 = (some FieldType.long) ∧ xMh 371 = [] := by decide +kernel
theorem e371 {X : xX} {d : Nat} {w : xH} {Q : xO → xH → Prop} (a : Nat) (x0 : Int32) : Cw X d 371 [.ref a, .int x0] w Q = Wx X d 371 0 [some (.ref a), some (.int x0)] [] w Q := by
  unfold Cw
  rw [m371.1]
  rfl
theorem d371_0 : decode prog_13_method_156_code 0 = .ok (.aload_n 0, 1) := by decide +kernel
theorem d371_1 : decode prog_13_method_156_code 1 = .ok (.iconst 0, 1) := by decide +kernel
theorem d371_2 : decode prog_13_method_156_code 2 = .ok (.iload_n 1, 1) := by decide +kernel
theorem d371_3 : decode prog_13_method_156_code 3 = .ok (.invokevirtual 486, 3) := by decide +kernel
theorem k371_486_11 : xCa (xMo 371) 486 11 = some (1, 321, 2) := by decide +kernel
theorem n371_486 : xcn (xMo 371) 486 = some 2 := by decide +kernel
theorem d371_6 : decode prog_13_method_156_code 6 = .ok (.ifCond .eq 11, 3) := by decide +kernel
theorem d371_9 : decode prog_13_method_156_code 9 = .ok (.aload_n 0, 1) := by decide +kernel
theorem d371_10 : decode prog_13_method_156_code 10 = .ok (.iload_n 1, 1) := by decide +kernel
theorem d371_11 : decode prog_13_method_156_code 11 = .ok (.invokevirtual 549, 3) := by decide +kernel
theorem k371_549_11 : xCa (xMo 371) 549 11 = some (1, 372, 1) := by decide +kernel
theorem n371_549 : xcn (xMo 371) 549 = some 1 := by decide +kernel
theorem d371_14 : decode prog_13_method_156_code 14 = .ok (.goto 4, 3) := by decide +kernel
theorem d371_17 : decode prog_13_method_156_code 17 = .ok (.lconst 0, 1) := by decide +kernel
theorem d371_18 : decode prog_13_method_156_code 18 = .ok (.lreturn, 1) := by decide +kernel
set_option maxRecDepth 100000 in
theorem q372 : xMc 372 = prog_13_method_155_code := rfl
theorem m372 : xMl 372 = 5 ∧ xMret 372 = (some FieldType.long) ∧ xMh 372 = [] := by decide +kernel
theorem e372 {X : xX} {d : Nat} {w : xH} {Q : xO → xH → Prop} (a : Nat) (x0 : Int32) : Cw X d 372 [.ref a, .int x0] w Q = Wx X d 372 0 [some (.ref a), some (.int x0), none, none, none] [] w Q := by
  unfold Cw
  rw [m372.1]
  rfl
theorem d372_0 : decode prog_13_method_155_code 0 = .ok (.lconst 0, 1) := by decide +kernel
theorem d372_1 : decode prog_13_method_155_code 1 = .ok (.lstore_n 2, 1) := by decide +kernel
theorem d372_2 : decode prog_13_method_155_code 2 = .ok (.iconst 0, 1) := by decide +kernel
theorem d372_3 : decode prog_13_method_155_code 3 = .ok (.istore 4, 2) := by decide +kernel
theorem d372_5 : decode prog_13_method_155_code 5 = .ok (.iload 4, 2) := by decide +kernel
theorem d372_7 : decode prog_13_method_155_code 7 = .ok (.sipush 200, 3) := by decide +kernel
theorem d372_10 : decode prog_13_method_155_code 10 = .ok (.if_icmp .ge 44, 3) := by decide +kernel
theorem d372_13 : decode prog_13_method_155_code 13 = .ok (.lload_n 2, 1) := by decide +kernel
theorem d372_14 : decode prog_13_method_155_code 14 = .ok (.aload_n 0, 1) := by decide +kernel
theorem d372_15 : decode prog_13_method_155_code 15 = .ok (.iload 4, 2) := by decide +kernel
theorem d372_17 : decode prog_13_method_155_code 17 = .ok (.invokevirtual 425, 3) := by decide +kernel
theorem k372_425_11 : xCa (xMo 372) 425 11 = some (1, 312, 1) := by decide +kernel
theorem n372_425 : xcn (xMo 372) 425 = some 1 := by decide +kernel
theorem d372_20 : decode prog_13_method_155_code 20 = .ok (.iload_n 1, 1) := by decide +kernel
theorem d372_21 : decode prog_13_method_155_code 21 = .ok (.if_icmp .ne 24, 3) := by decide +kernel
theorem d372_24 : decode prog_13_method_155_code 24 = .ok (.aload_n 0, 1) := by decide +kernel
theorem d372_25 : decode prog_13_method_155_code 25 = .ok (.getfield 47, 3) := by decide +kernel
theorem f372_47 : xFd (xMo 372) 47 = some (11, 17) := by decide +kernel
theorem d372_28 : decode prog_13_method_155_code 28 = .ok (.iload 4, 2) := by decide +kernel
theorem d372_30 : decode prog_13_method_155_code 30 = .ok (.iaload, 1) := by decide +kernel
theorem d372_31 : decode prog_13_method_155_code 31 = .ok (.ifCond .ne 14, 3) := by decide +kernel
theorem d372_34 : decode prog_13_method_155_code 34 = .ok (.aload_n 0, 1) := by decide +kernel
theorem d372_35 : decode prog_13_method_155_code 35 = .ok (.getfield 44, 3) := by decide +kernel
theorem f372_44 : xFd (xMo 372) 44 = some (11, 16) := by decide +kernel
theorem d372_38 : decode prog_13_method_155_code 38 = .ok (.iload 4, 2) := by decide +kernel
theorem d372_40 : decode prog_13_method_155_code 40 = .ok (.iaload, 1) := by decide +kernel
theorem d372_41 : decode prog_13_method_155_code 41 = .ok (.i2l, 1) := by decide +kernel
theorem d372_42 : decode prog_13_method_155_code 42 = .ok (.goto 4, 3) := by decide +kernel
theorem d372_45 : decode prog_13_method_155_code 45 = .ok (.lconst 0, 1) := by decide +kernel
theorem d372_46 : decode prog_13_method_155_code 46 = .ok (.ladd, 1) := by decide +kernel
theorem d372_47 : decode prog_13_method_155_code 47 = .ok (.lstore_n 2, 1) := by decide +kernel
theorem d372_48 : decode prog_13_method_155_code 48 = .ok (.iinc 4 1, 3) := by decide +kernel
theorem d372_51 : decode prog_13_method_155_code 51 = .ok (.goto (-46), 3) := by decide +kernel
theorem d372_54 : decode prog_13_method_155_code 54 = .ok (.lload_n 2, 1) := by decide +kernel
theorem d372_55 : decode prog_13_method_155_code 55 = .ok (.lreturn, 1) := by decide +kernel
set_option maxRecDepth 100000 in
theorem q373 : xMc 373 = prog_13_method_157_code := rfl
theorem m373 : xMl 373 = 2 ∧ xMret 373 = (some FieldType.long) ∧ xMh 373 = [] := by decide +kernel
theorem e373 {X : xX} {d : Nat} {w : xH} {Q : xO → xH → Prop} (a : Nat) (x0 : Int32) : Cw X d 373 [.ref a, .int x0] w Q = Wx X d 373 0 [some (.ref a), some (.int x0)] [] w Q := by
  unfold Cw
  rw [m373.1]
  rfl
theorem d373_0 : decode prog_13_method_157_code 0 = .ok (.aload_n 0, 1) := by decide +kernel
theorem d373_1 : decode prog_13_method_157_code 1 = .ok (.iconst 1, 1) := by decide +kernel
theorem d373_2 : decode prog_13_method_157_code 2 = .ok (.iload_n 1, 1) := by decide +kernel
theorem d373_3 : decode prog_13_method_157_code 3 = .ok (.invokevirtual 486, 3) := by decide +kernel
theorem k373_486_11 : xCa (xMo 373) 486 11 = some (1, 321, 2) := by decide +kernel
theorem n373_486 : xcn (xMo 373) 486 = some 2 := by decide +kernel
theorem d373_6 : decode prog_13_method_157_code 6 = .ok (.ifCond .eq 11, 3) := by decide +kernel
theorem d373_9 : decode prog_13_method_157_code 9 = .ok (.aload_n 0, 1) := by decide +kernel
theorem d373_10 : decode prog_13_method_157_code 10 = .ok (.iload_n 1, 1) := by decide +kernel
theorem d373_11 : decode prog_13_method_157_code 11 = .ok (.invokevirtual 549, 3) := by decide +kernel
theorem k373_549_11 : xCa (xMo 373) 549 11 = some (1, 372, 1) := by decide +kernel
theorem n373_549 : xcn (xMo 373) 549 = some 1 := by decide +kernel
theorem d373_14 : decode prog_13_method_157_code 14 = .ok (.goto 4, 3) := by decide +kernel
theorem d373_17 : decode prog_13_method_157_code 17 = .ok (.lconst 0, 1) := by decide +kernel
theorem d373_18 : decode prog_13_method_157_code 18 = .ok (.lreturn, 1) := by decide +kernel
set_option maxRecDepth 100000 in
theorem q374 : xMc 374 = prog_13_method_159_code := rfl
theorem m374 : xMl 374 = 5 ∧ xMret 374 = (some FieldType.double) ∧ xMh 374 = [] := by decide +kernel
theorem e374 {X : xX} {d : Nat} {w : xH} {Q : xO → xH → Prop} (a : Nat) : Cw X d 374 [.ref a] w Q = Wx X d 374 0 [some (.ref a), none, none, none, none] [] w Q := by
  unfold Cw
  rw [m374.1]
  rfl
theorem d374_0 : decode prog_13_method_159_code 0 = .ok (.aload_n 0, 1) := by decide +kernel
theorem d374_1 : decode prog_13_method_159_code 1 = .ok (.iconst 0, 1) := by decide +kernel
theorem d374_2 : decode prog_13_method_159_code 2 = .ok (.putfield 87, 3) := by decide +kernel
theorem f374_87 : xFd (xMo 374) 87 = some (11, 11) := by decide +kernel
theorem d374_5 : decode prog_13_method_159_code 5 = .ok (.lconst 0, 1) := by decide +kernel
theorem d374_6 : decode prog_13_method_159_code 6 = .ok (.lstore_n 1, 1) := by decide +kernel
theorem d374_7 : decode prog_13_method_159_code 7 = .ok (.iconst 0, 1) := by decide +kernel
theorem d374_8 : decode prog_13_method_159_code 8 = .ok (.istore_n 3, 1) := by decide +kernel
theorem d374_9 : decode prog_13_method_159_code 9 = .ok (.iconst 0, 1) := by decide +kernel
theorem d374_10 : decode prog_13_method_159_code 10 = .ok (.istore 4, 2) := by decide +kernel
theorem d374_12 : decode prog_13_method_159_code 12 = .ok (.iload 4, 2) := by decide +kernel
theorem d374_14 : decode prog_13_method_159_code 14 = .ok (.sipush 200, 3) := by decide +kernel
theorem d374_17 : decode prog_13_method_159_code 17 = .ok (.if_icmp .ge 50, 3) := by decide +kernel
theorem d374_20 : decode prog_13_method_159_code 20 = .ok (.lload_n 1, 1) := by decide +kernel
theorem d374_21 : decode prog_13_method_159_code 21 = .ok (.aload_n 0, 1) := by decide +kernel
theorem d374_22 : decode prog_13_method_159_code 22 = .ok (.iload 4, 2) := by decide +kernel
theorem d374_24 : decode prog_13_method_159_code 24 = .ok (.invokevirtual 553, 3) := by decide +kernel
theorem k374_553_11 : xCa (xMo 374) 553 11 = some (1, 375, 1) := by decide +kernel
theorem n374_553 : xcn (xMo 374) 553 = some 1 := by decide +kernel
theorem d374_27 : decode prog_13_method_159_code 27 = .ok (.ifCond .eq 14, 3) := by decide +kernel
theorem d374_30 : decode prog_13_method_159_code 30 = .ok (.aload_n 0, 1) := by decide +kernel
theorem d374_31 : decode prog_13_method_159_code 31 = .ok (.getfield 44, 3) := by decide +kernel
theorem f374_44 : xFd (xMo 374) 44 = some (11, 16) := by decide +kernel
theorem d374_34 : decode prog_13_method_159_code 34 = .ok (.iload 4, 2) := by decide +kernel
theorem d374_36 : decode prog_13_method_159_code 36 = .ok (.iaload, 1) := by decide +kernel
theorem d374_37 : decode prog_13_method_159_code 37 = .ok (.i2l, 1) := by decide +kernel
theorem d374_38 : decode prog_13_method_159_code 38 = .ok (.goto 4, 3) := by decide +kernel
theorem d374_41 : decode prog_13_method_159_code 41 = .ok (.lconst 0, 1) := by decide +kernel
theorem d374_42 : decode prog_13_method_159_code 42 = .ok (.ladd, 1) := by decide +kernel
theorem d374_43 : decode prog_13_method_159_code 43 = .ok (.lstore_n 1, 1) := by decide +kernel
theorem d374_44 : decode prog_13_method_159_code 44 = .ok (.iload_n 3, 1) := by decide +kernel
theorem d374_45 : decode prog_13_method_159_code 45 = .ok (.aload_n 0, 1) := by decide +kernel
theorem d374_46 : decode prog_13_method_159_code 46 = .ok (.iload 4, 2) := by decide +kernel
theorem d374_48 : decode prog_13_method_159_code 48 = .ok (.invokevirtual 553, 3) := by decide +kernel
theorem d374_51 : decode prog_13_method_159_code 51 = .ok (.ifCond .eq 7, 3) := by decide +kernel
theorem d374_54 : decode prog_13_method_159_code 54 = .ok (.iconst 1, 1) := by decide +kernel
theorem d374_55 : decode prog_13_method_159_code 55 = .ok (.goto 4, 3) := by decide +kernel
theorem d374_58 : decode prog_13_method_159_code 58 = .ok (.iconst 0, 1) := by decide +kernel
theorem d374_59 : decode prog_13_method_159_code 59 = .ok (.iadd, 1) := by decide +kernel
theorem d374_60 : decode prog_13_method_159_code 60 = .ok (.istore_n 3, 1) := by decide +kernel
theorem d374_61 : decode prog_13_method_159_code 61 = .ok (.iinc 4 1, 3) := by decide +kernel
theorem d374_64 : decode prog_13_method_159_code 64 = .ok (.goto (-52), 3) := by decide +kernel
theorem d374_67 : decode prog_13_method_159_code 67 = .ok (.iload_n 3, 1) := by decide +kernel
theorem d374_68 : decode prog_13_method_159_code 68 = .ok (.ifCond .ne 7, 3) := by decide +kernel
theorem d374_71 : decode prog_13_method_159_code 71 = .ok (.dconst 0, 1) := by decide +kernel
theorem d374_72 : decode prog_13_method_159_code 72 = .ok (.goto 8, 3) := by decide +kernel
theorem d374_75 : decode prog_13_method_159_code 75 = .ok (.lload_n 1, 1) := by decide +kernel
theorem d374_76 : decode prog_13_method_159_code 76 = .ok (.l2d, 1) := by decide +kernel
theorem d374_77 : decode prog_13_method_159_code 77 = .ok (.iload_n 3, 1) := by decide +kernel
theorem d374_78 : decode prog_13_method_159_code 78 = .ok (.i2d, 1) := by decide +kernel
theorem d374_79 : decode prog_13_method_159_code 79 = .ok (.ddiv, 1) := by decide +kernel
theorem d374_80 : decode prog_13_method_159_code 80 = .ok (.dreturn, 1) := by decide +kernel
set_option maxRecDepth 100000 in
theorem q375 : xMc 375 = prog_13_method_158_code := rfl
theorem m375 : xMl 375 = 2 ∧ xMret 375 = (some FieldType.boolean) ∧ xMh 375 = [] := by decide +kernel
theorem e375 {X : xX} {d : Nat} {w : xH} {Q : xO → xH → Prop} (a : Nat) (x0 : Int32) : Cw X d 375 [.ref a, .int x0] w Q = Wx X d 375 0 [some (.ref a), some (.int x0)] [] w Q := by
  unfold Cw
  rw [m375.1]
  rfl
theorem d375_0 : decode prog_13_method_158_code 0 = .ok (.aload_n 0, 1) := by decide +kernel
theorem d375_1 : decode prog_13_method_158_code 1 = .ok (.iload_n 1, 1) := by decide +kernel
theorem d375_2 : decode prog_13_method_158_code 2 = .ok (.iconst 0, 1) := by decide +kernel
theorem d375_3 : decode prog_13_method_158_code 3 = .ok (.invokevirtual 133, 3) := by decide +kernel
theorem k375_133_11 : xCa (xMo 375) 133 11 = some (1, 219, 2) := by decide +kernel
theorem n375_133 : xcn (xMo 375) 133 = some 2 := by decide +kernel
theorem d375_6 : decode prog_13_method_158_code 6 = .ok (.ifCond .ne 16, 3) := by decide +kernel
theorem d375_9 : decode prog_13_method_158_code 9 = .ok (.aload_n 0, 1) := by decide +kernel
theorem d375_10 : decode prog_13_method_158_code 10 = .ok (.getfield 47, 3) := by decide +kernel
theorem f375_47 : xFd (xMo 375) 47 = some (11, 17) := by decide +kernel
theorem d375_13 : decode prog_13_method_158_code 13 = .ok (.iload_n 1, 1) := by decide +kernel
theorem d375_14 : decode prog_13_method_158_code 14 = .ok (.iaload, 1) := by decide +kernel
theorem d375_15 : decode prog_13_method_158_code 15 = .ok (.ifCond .ne 7, 3) := by decide +kernel
theorem d375_18 : decode prog_13_method_158_code 18 = .ok (.iconst 1, 1) := by decide +kernel
theorem d375_19 : decode prog_13_method_158_code 19 = .ok (.goto 4, 3) := by decide +kernel
theorem d375_22 : decode prog_13_method_158_code 22 = .ok (.iconst 0, 1) := by decide +kernel
theorem d375_23 : decode prog_13_method_158_code 23 = .ok (.ireturn, 1) := by decide +kernel
set_option maxRecDepth 100000 in
theorem q376 : xMc 376 = prog_13_method_160_code := rfl
theorem m376 : xMl 376 = 4 ∧ xMret 376 = (some FieldType.int) ∧ xMh 376 = [] := by decide +kernel
theorem e376 {X : xX} {d : Nat} {w : xH} {Q : xO → xH → Prop} (a : Nat) (x0 : Int32) : Cw X d 376 [.ref a, .int x0] w Q = Wx X d 376 0 [some (.ref a), some (.int x0), none, none] [] w Q := by
  unfold Cw
  rw [m376.1]
  rfl
theorem d376_0 : decode prog_13_method_160_code 0 = .ok (.aload_n 0, 1) := by decide +kernel
theorem d376_1 : decode prog_13_method_160_code 1 = .ok (.iconst 0, 1) := by decide +kernel
theorem d376_2 : decode prog_13_method_160_code 2 = .ok (.putfield 87, 3) := by decide +kernel
theorem f376_87 : xFd (xMo 376) 87 = some (11, 11) := by decide +kernel
theorem d376_5 : decode prog_13_method_160_code 5 = .ok (.iconst (-1), 1) := by decide +kernel
theorem d376_6 : decode prog_13_method_160_code 6 = .ok (.istore_n 2, 1) := by decide +kernel
theorem d376_7 : decode prog_13_method_160_code 7 = .ok (.sipush 199, 3) := by decide +kernel
theorem d376_10 : decode prog_13_method_160_code 10 = .ok (.istore_n 3, 1) := by decide +kernel
theorem d376_11 : decode prog_13_method_160_code 11 = .ok (.iload_n 3, 1) := by decide +kernel
theorem d376_12 : decode prog_13_method_160_code 12 = .ok (.ifCond .lt 33, 3) := by decide +kernel
theorem d376_15 : decode prog_13_method_160_code 15 = .ok (.aload_n 0, 1) := by decide +kernel
theorem d376_16 : decode prog_13_method_160_code 16 = .ok (.iload_n 3, 1) := by decide +kernel
theorem d376_17 : decode prog_13_method_160_code 17 = .ok (.invokevirtual 553, 3) := by decide +kernel
theorem k376_553_11 : xCa (xMo 376) 553 11 = some (1, 375, 1) := by decide +kernel
theorem n376_553 : xcn (xMo 376) 553 = some 1 := by decide +kernel
theorem d376_20 : decode prog_13_method_160_code 20 = .ok (.ifCond .eq 17, 3) := by decide +kernel
theorem d376_23 : decode prog_13_method_160_code 23 = .ok (.aload_n 0, 1) := by decide +kernel
theorem d376_24 : decode prog_13_method_160_code 24 = .ok (.getfield 44, 3) := by decide +kernel
theorem f376_44 : xFd (xMo 376) 44 = some (11, 16) := by decide +kernel
theorem d376_27 : decode prog_13_method_160_code 27 = .ok (.iload_n 3, 1) := by decide +kernel
theorem d376_28 : decode prog_13_method_160_code 28 = .ok (.iaload, 1) := by decide +kernel
theorem d376_29 : decode prog_13_method_160_code 29 = .ok (.iload_n 1, 1) := by decide +kernel
theorem d376_30 : decode prog_13_method_160_code 30 = .ok (.if_icmp .ne 7, 3) := by decide +kernel
theorem d376_33 : decode prog_13_method_160_code 33 = .ok (.iload_n 3, 1) := by decide +kernel
theorem d376_34 : decode prog_13_method_160_code 34 = .ok (.goto 4, 3) := by decide +kernel
theorem d376_37 : decode prog_13_method_160_code 37 = .ok (.iload_n 2, 1) := by decide +kernel
theorem d376_38 : decode prog_13_method_160_code 38 = .ok (.istore_n 2, 1) := by decide +kernel
theorem d376_39 : decode prog_13_method_160_code 39 = .ok (.iinc 3 (-1), 3) := by decide +kernel
theorem d376_42 : decode prog_13_method_160_code 42 = .ok (.goto (-31), 3) := by decide +kernel
theorem d376_45 : decode prog_13_method_160_code 45 = .ok (.iload_n 2, 1) := by decide +kernel
theorem d376_46 : decode prog_13_method_160_code 46 = .ok (.ireturn, 1) := by decide +kernel
set_option maxRecDepth 100000 in
theorem q377 : xMc 377 = prog_13_method_161_code := rfl
theorem m377 : xMl 377 = 8 ∧ xMret 377 = (some FieldType.int) ∧ xMh 377 = [] := by decide +kernel
theorem e377 {X : xX} {d : Nat} {w : xH} {Q : xO → xH → Prop} (a : Nat) (x0 : Int32) (x1 : Int32) (x2 : Int32) : Cw X d 377 [.ref a, .int x0, .int x1, .int x2] w Q = Wx X d 377 0 [some (.ref a), some (.int x0), some (.int x1), some (.int x2), none, none, none, none] [] w Q := by
  unfold Cw
  rw [m377.1]
  rfl
theorem d377_0 : decode prog_13_method_161_code 0 = .ok (.aload_n 0, 1) := by decide +kernel
theorem d377_1 : decode prog_13_method_161_code 1 = .ok (.iload_n 1, 1) := by decide +kernel
theorem d377_2 : decode prog_13_method_161_code 2 = .ok (.invokestatic 392, 3) := by decide +kernel
theorem k377_392_99 : xCa (xMo 377) 392 99 = some (0, 262, 1) := by decide +kernel
theorem d377_5 : decode prog_13_method_161_code 5 = .ok (.ifCond .eq 27, 3) := by decide +kernel
theorem d377_8 : decode prog_13_method_161_code 8 = .ok (.iload_n 3, 1) := by decide +kernel
theorem d377_9 : decode prog_13_method_161_code 9 = .ok (.invokestatic 392, 3) := by decide +kernel
theorem d377_12 : decode prog_13_method_161_code 12 = .ok (.ifCond .eq 20, 3) := by decide +kernel
theorem d377_15 : decode prog_13_method_161_code 15 = .ok (.iload_n 2, 1) := by decide +kernel
theorem d377_16 : decode prog_13_method_161_code 16 = .ok (.ldc_w 408, 3) := by decide +kernel
theorem d377_19 : decode prog_13_method_161_code 19 = .ok (.ldc_w 409, 3) := by decide +kernel
theorem d377_22 : decode prog_13_method_161_code 22 = .ok (.invokestatic 91, 3) := by decide +kernel
theorem k377_91_99 : xCa (xMo 377) 91 99 = some (0, 232, 3) := by decide +kernel
theorem d377_25 : decode prog_13_method_161_code 25 = .ok (.ifCond .eq 7, 3) := by decide +kernel
theorem d377_28 : decode prog_13_method_161_code 28 = .ok (.iconst 1, 1) := by decide +kernel
theorem d377_29 : decode prog_13_method_161_code 29 = .ok (.goto 4, 3) := by decide +kernel
theorem d377_32 : decode prog_13_method_161_code 32 = .ok (.iconst 0, 1) := by decide +kernel
theorem d377_33 : decode prog_13_method_161_code 33 = .ok (.invokevirtual 395, 3) := by decide +kernel
theorem k377_395_11 : xCa (xMo 377) 395 11 = some (1, 263, 1) := by decide +kernel
theorem n377_395 : xcn (xMo 377) 395 = some 1 := by decide +kernel
theorem d377_36 : decode prog_13_method_161_code 36 = .ok (.ifCond .ne 5, 3) := by decide +kernel
theorem d377_39 : decode prog_13_method_161_code 39 = .ok (.iconst 0, 1) := by decide +kernel
theorem d377_40 : decode prog_13_method_161_code 40 = .ok (.ireturn, 1) := by decide +kernel
theorem d377_41 : decode prog_13_method_161_code 41 = .ok (.aload_n 0, 1) := by decide +kernel
theorem d377_42 : decode prog_13_method_161_code 42 = .ok (.getfield 7, 3) := by decide +kernel
theorem f377_7 : xFd (xMo 377) 7 = some (11, 0) := by decide +kernel
theorem d377_45 : decode prog_13_method_161_code 45 = .ok (.iload_n 1, 1) := by decide +kernel
theorem d377_46 : decode prog_13_method_161_code 46 = .ok (.iaload, 1) := by decide +kernel
theorem d377_47 : decode prog_13_method_161_code 47 = .ok (.istore 4, 2) := by decide +kernel
theorem d377_49 : decode prog_13_method_161_code 49 = .ok (.aload_n 0, 1) := by decide +kernel
theorem d377_50 : decode prog_13_method_161_code 50 = .ok (.getfield 7, 3) := by decide +kernel
theorem d377_53 : decode prog_13_method_161_code 53 = .ok (.sipush 200, 3) := by decide +kernel
theorem d377_56 : decode prog_13_method_161_code 56 = .ok (.iload_n 1, 1) := by decide +kernel
theorem d377_57 : decode prog_13_method_161_code 57 = .ok (.iadd, 1) := by decide +kernel
theorem d377_58 : decode prog_13_method_161_code 58 = .ok (.iaload, 1) := by decide +kernel
theorem d377_59 : decode prog_13_method_161_code 59 = .ok (.istore 5, 2) := by decide +kernel
theorem d377_61 : decode prog_13_method_161_code 61 = .ok (.aload_n 0, 1) := by decide +kernel
theorem d377_62 : decode prog_13_method_161_code 62 = .ok (.getfield 7, 3) := by decide +kernel
theorem d377_65 : decode prog_13_method_161_code 65 = .ok (.iload_n 1, 1) := by decide +kernel
theorem d377_66 : decode prog_13_method_161_code 66 = .ok (.iconst 1, 1) := by decide +kernel
theorem d377_67 : decode prog_13_method_161_code 67 = .ok (.iastore, 1) := by decide +kernel
theorem d377_68 : decode prog_13_method_161_code 68 = .ok (.aload_n 0, 1) := by decide +kernel
theorem d377_69 : decode prog_13_method_161_code 69 = .ok (.getfield 7, 3) := by decide +kernel
theorem d377_72 : decode prog_13_method_161_code 72 = .ok (.sipush 200, 3) := by decide +kernel
theorem d377_75 : decode prog_13_method_161_code 75 = .ok (.iload_n 1, 1) := by decide +kernel
theorem d377_76 : decode prog_13_method_161_code 76 = .ok (.iadd, 1) := by decide +kernel
theorem d377_77 : decode prog_13_method_161_code 77 = .ok (.iload_n 2, 1) := by decide +kernel
theorem d377_78 : decode prog_13_method_161_code 78 = .ok (.iastore, 1) := by decide +kernel
theorem d377_79 : decode prog_13_method_161_code 79 = .ok (.aload_n 0, 1) := by decide +kernel
theorem d377_80 : decode prog_13_method_161_code 80 = .ok (.invokevirtual 261, 3) := by decide +kernel
theorem k377_261_11 : xCa (xMo 377) 261 11 = some (1, 271, 0) := by decide +kernel
theorem n377_261 : xcn (xMo 377) 261 = some 0 := by decide +kernel
theorem d377_83 : decode prog_13_method_161_code 83 = .ok (.aload_n 0, 1) := by decide +kernel
theorem d377_84 : decode prog_13_method_161_code 84 = .ok (.getfield 47, 3) := by decide +kernel
theorem f377_47 : xFd (xMo 377) 47 = some (11, 17) := by decide +kernel
theorem d377_87 : decode prog_13_method_161_code 87 = .ok (.iload_n 3, 1) := by decide +kernel
theorem d377_88 : decode prog_13_method_161_code 88 = .ok (.iaload, 1) := by decide +kernel
theorem d377_89 : decode prog_13_method_161_code 89 = .ok (.istore 6, 2) := by decide +kernel
theorem d377_91 : decode prog_13_method_161_code 91 = .ok (.aload_n 0, 1) := by decide +kernel
theorem d377_92 : decode prog_13_method_161_code 92 = .ok (.getfield 44, 3) := by decide +kernel
theorem f377_44 : xFd (xMo 377) 44 = some (11, 16) := by decide +kernel
theorem d377_95 : decode prog_13_method_161_code 95 = .ok (.iload_n 3, 1) := by decide +kernel
theorem d377_96 : decode prog_13_method_161_code 96 = .ok (.iaload, 1) := by decide +kernel
theorem d377_97 : decode prog_13_method_161_code 97 = .ok (.istore 7, 2) := by decide +kernel
theorem d377_99 : decode prog_13_method_161_code 99 = .ok (.aload_n 0, 1) := by decide +kernel
theorem d377_100 : decode prog_13_method_161_code 100 = .ok (.getfield 7, 3) := by decide +kernel
theorem d377_103 : decode prog_13_method_161_code 103 = .ok (.iload_n 1, 1) := by decide +kernel
theorem d377_104 : decode prog_13_method_161_code 104 = .ok (.iload 4, 2) := by decide +kernel
theorem d377_106 : decode prog_13_method_161_code 106 = .ok (.iastore, 1) := by decide +kernel
theorem d377_107 : decode prog_13_method_161_code 107 = .ok (.aload_n 0, 1) := by decide +kernel
theorem d377_108 : decode prog_13_method_161_code 108 = .ok (.getfield 7, 3) := by decide +kernel
theorem d377_111 : decode prog_13_method_161_code 111 = .ok (.sipush 200, 3) := by decide +kernel
theorem d377_114 : decode prog_13_method_161_code 114 = .ok (.iload_n 1, 1) := by decide +kernel
theorem d377_115 : decode prog_13_method_161_code 115 = .ok (.iadd, 1) := by decide +kernel
theorem d377_116 : decode prog_13_method_161_code 116 = .ok (.iload 5, 2) := by decide +kernel
theorem d377_118 : decode prog_13_method_161_code 118 = .ok (.iastore, 1) := by decide +kernel
theorem d377_119 : decode prog_13_method_161_code 119 = .ok (.aload_n 0, 1) := by decide +kernel
theorem d377_120 : decode prog_13_method_161_code 120 = .ok (.invokevirtual 261, 3) := by decide +kernel
theorem d377_123 : decode prog_13_method_161_code 123 = .ok (.iload 6, 2) := by decide +kernel
theorem d377_125 : decode prog_13_method_161_code 125 = .ok (.ifCond .le 11, 3) := by decide +kernel
theorem d377_128 : decode prog_13_method_161_code 128 = .ok (.aload_n 0, 1) := by decide +kernel
theorem d377_129 : decode prog_13_method_161_code 129 = .ok (.iconst 2, 1) := by decide +kernel
theorem d377_130 : decode prog_13_method_161_code 130 = .ok (.invokevirtual 382, 3) := by decide +kernel
theorem k377_382_11 : xCa (xMo 377) 382 11 = some (1, 233, 1) := by decide +kernel
theorem n377_382 : xcn (xMo 377) 382 = some 1 := by decide +kernel
theorem d377_133 : decode prog_13_method_161_code 133 = .ok (.goto 5, 3) := by decide +kernel
theorem d377_136 : decode prog_13_method_161_code 136 = .ok (.iload 7, 2) := by decide +kernel
theorem d377_138 : decode prog_13_method_161_code 138 = .ok (.ireturn, 1) := by decide +kernel
set_option maxRecDepth 100000 in
theorem q378 : xMc 378 = prog_13_method_162_code := rfl
theorem m378 : xMl 378 = 8 ∧ xMret 378 = (some FieldType.int) ∧ xMh 378 = [] := by decide +kernel
theorem e378 {X : xX} {d : Nat} {w : xH} {Q : xO → xH → Prop} (a : Nat) (x0 : Int32) (x1 : Int32) (x2 : Int32) : Cw X d 378 [.ref a, .int x0, .int x1, .int x2] w Q = Wx X d 378 0 [some (.ref a), some (.int x0), some (.int x1), some (.int x2), none, none, none, none] [] w Q := by
  unfold Cw
  rw [m378.1]
  rfl
theorem d378_0 : decode prog_13_method_162_code 0 = .ok (.aload_n 0, 1) := by decide +kernel
theorem d378_1 : decode prog_13_method_162_code 1 = .ok (.iload_n 1, 1) := by decide +kernel
theorem d378_2 : decode prog_13_method_162_code 2 = .ok (.invokestatic 392, 3) := by decide +kernel
theorem k378_392_99 : xCa (xMo 378) 392 99 = some (0, 262, 1) := by decide +kernel
theorem d378_5 : decode prog_13_method_162_code 5 = .ok (.ifCond .eq 14, 3) := by decide +kernel
theorem d378_8 : decode prog_13_method_162_code 8 = .ok (.iload_n 2, 1) := by decide +kernel
theorem d378_9 : decode prog_13_method_162_code 9 = .ok (.invokestatic 392, 3) := by decide +kernel
theorem d378_12 : decode prog_13_method_162_code 12 = .ok (.ifCond .eq 7, 3) := by decide +kernel
theorem d378_15 : decode prog_13_method_162_code 15 = .ok (.iconst 1, 1) := by decide +kernel
theorem d378_16 : decode prog_13_method_162_code 16 = .ok (.goto 4, 3) := by decide +kernel
theorem d378_19 : decode prog_13_method_162_code 19 = .ok (.iconst 0, 1) := by decide +kernel
theorem d378_20 : decode prog_13_method_162_code 20 = .ok (.invokevirtual 395, 3) := by decide +kernel
theorem k378_395_11 : xCa (xMo 378) 395 11 = some (1, 263, 1) := by decide +kernel
theorem n378_395 : xcn (xMo 378) 395 = some 1 := by decide +kernel
theorem d378_23 : decode prog_13_method_162_code 23 = .ok (.ifCond .ne 5, 3) := by decide +kernel
theorem d378_26 : decode prog_13_method_162_code 26 = .ok (.iconst 0, 1) := by decide +kernel
theorem d378_27 : decode prog_13_method_162_code 27 = .ok (.ireturn, 1) := by decide +kernel
theorem d378_28 : decode prog_13_method_162_code 28 = .ok (.aload_n 0, 1) := by decide +kernel
theorem d378_29 : decode prog_13_method_162_code 29 = .ok (.getfield 7, 3) := by decide +kernel
theorem f378_7 : xFd (xMo 378) 7 = some (11, 0) := by decide +kernel
theorem d378_32 : decode prog_13_method_162_code 32 = .ok (.iload_n 1, 1) := by decide +kernel
theorem d378_33 : decode prog_13_method_162_code 33 = .ok (.iaload, 1) := by decide +kernel
theorem d378_34 : decode prog_13_method_162_code 34 = .ok (.istore 4, 2) := by decide +kernel
theorem d378_36 : decode prog_13_method_162_code 36 = .ok (.aload_n 0, 1) := by decide +kernel
theorem d378_37 : decode prog_13_method_162_code 37 = .ok (.getfield 7, 3) := by decide +kernel
theorem d378_40 : decode prog_13_method_162_code 40 = .ok (.sipush 200, 3) := by decide +kernel
theorem d378_43 : decode prog_13_method_162_code 43 = .ok (.iload_n 1, 1) := by decide +kernel
theorem d378_44 : decode prog_13_method_162_code 44 = .ok (.iadd, 1) := by decide +kernel
theorem d378_45 : decode prog_13_method_162_code 45 = .ok (.iaload, 1) := by decide +kernel
theorem d378_46 : decode prog_13_method_162_code 46 = .ok (.istore 5, 2) := by decide +kernel
theorem d378_48 : decode prog_13_method_162_code 48 = .ok (.iconst (-1), 1) := by decide +kernel
theorem d378_49 : decode prog_13_method_162_code 49 = .ok (.istore 6, 2) := by decide +kernel
theorem d378_51 : decode prog_13_method_162_code 51 = .ok (.aload_n 0, 1) := by decide +kernel
theorem d378_52 : decode prog_13_method_162_code 52 = .ok (.getfield 7, 3) := by decide +kernel
theorem d378_55 : decode prog_13_method_162_code 55 = .ok (.iload_n 1, 1) := by decide +kernel
theorem d378_56 : decode prog_13_method_162_code 56 = .ok (.iconst 1, 1) := by decide +kernel
theorem d378_57 : decode prog_13_method_162_code 57 = .ok (.iastore, 1) := by decide +kernel
theorem d378_58 : decode prog_13_method_162_code 58 = .ok (.bipush 50, 2) := by decide +kernel
theorem d378_60 : decode prog_13_method_162_code 60 = .ok (.istore 7, 2) := by decide +kernel
theorem d378_62 : decode prog_13_method_162_code 62 = .ok (.iload 7, 2) := by decide +kernel
theorem d378_64 : decode prog_13_method_162_code 64 = .ok (.ifCond .lt 53, 3) := by decide +kernel
theorem d378_67 : decode prog_13_method_162_code 67 = .ok (.aload_n 0, 1) := by decide +kernel
theorem d378_68 : decode prog_13_method_162_code 68 = .ok (.getfield 7, 3) := by decide +kernel
theorem d378_71 : decode prog_13_method_162_code 71 = .ok (.sipush 200, 3) := by decide +kernel
theorem d378_74 : decode prog_13_method_162_code 74 = .ok (.iload_n 1, 1) := by decide +kernel
theorem d378_75 : decode prog_13_method_162_code 75 = .ok (.iadd, 1) := by decide +kernel
theorem d378_76 : decode prog_13_method_162_code 76 = .ok (.iload 7, 2) := by decide +kernel
theorem d378_78 : decode prog_13_method_162_code 78 = .ok (.iastore, 1) := by decide +kernel
theorem d378_79 : decode prog_13_method_162_code 79 = .ok (.aload_n 0, 1) := by decide +kernel
theorem d378_80 : decode prog_13_method_162_code 80 = .ok (.invokevirtual 261, 3) := by decide +kernel
theorem k378_261_11 : xCa (xMo 378) 261 11 = some (1, 271, 0) := by decide +kernel
theorem n378_261 : xcn (xMo 378) 261 = some 0 := by decide +kernel
theorem d378_83 : decode prog_13_method_162_code 83 = .ok (.aload_n 0, 1) := by decide +kernel
theorem d378_84 : decode prog_13_method_162_code 84 = .ok (.getfield 47, 3) := by decide +kernel
theorem f378_47 : xFd (xMo 378) 47 = some (11, 17) := by decide +kernel
theorem d378_87 : decode prog_13_method_162_code 87 = .ok (.iload_n 2, 1) := by decide +kernel
theorem d378_88 : decode prog_13_method_162_code 88 = .ok (.iaload, 1) := by decide +kernel
theorem d378_89 : decode prog_13_method_162_code 89 = .ok (.ifCond .ne 18, 3) := by decide +kernel
theorem d378_92 : decode prog_13_method_162_code 92 = .ok (.aload_n 0, 1) := by decide +kernel
theorem d378_93 : decode prog_13_method_162_code 93 = .ok (.getfield 44, 3) := by decide +kernel
theorem f378_44 : xFd (xMo 378) 44 = some (11, 16) := by decide +kernel
theorem d378_96 : decode prog_13_method_162_code 96 = .ok (.iload_n 2, 1) := by decide +kernel
theorem d378_97 : decode prog_13_method_162_code 97 = .ok (.iaload, 1) := by decide +kernel
theorem d378_98 : decode prog_13_method_162_code 98 = .ok (.iload_n 3, 1) := by decide +kernel
theorem d378_99 : decode prog_13_method_162_code 99 = .ok (.if_icmp .ne 8, 3) := by decide +kernel
theorem d378_102 : decode prog_13_method_162_code 102 = .ok (.iload 7, 2) := by decide +kernel
theorem d378_104 : decode prog_13_method_162_code 104 = .ok (.goto 5, 3) := by decide +kernel
theorem d378_107 : decode prog_13_method_162_code 107 = .ok (.iload 6, 2) := by decide +kernel
theorem d378_109 : decode prog_13_method_162_code 109 = .ok (.istore 6, 2) := by decide +kernel
theorem d378_111 : decode prog_13_method_162_code 111 = .ok (.iinc 7 (-1), 3) := by decide +kernel
theorem d378_114 : decode prog_13_method_162_code 114 = .ok (.goto (-52), 3) := by decide +kernel
theorem d378_117 : decode prog_13_method_162_code 117 = .ok (.aload_n 0, 1) := by decide +kernel
theorem d378_118 : decode prog_13_method_162_code 118 = .ok (.getfield 7, 3) := by decide +kernel
theorem d378_121 : decode prog_13_method_162_code 121 = .ok (.iload_n 1, 1) := by decide +kernel
theorem d378_122 : decode prog_13_method_162_code 122 = .ok (.iload 4, 2) := by decide +kernel
theorem d378_124 : decode prog_13_method_162_code 124 = .ok (.iastore, 1) := by decide +kernel
theorem d378_125 : decode prog_13_method_162_code 125 = .ok (.aload_n 0, 1) := by decide +kernel
theorem d378_126 : decode prog_13_method_162_code 126 = .ok (.getfield 7, 3) := by decide +kernel
theorem d378_129 : decode prog_13_method_162_code 129 = .ok (.sipush 200, 3) := by decide +kernel
theorem d378_132 : decode prog_13_method_162_code 132 = .ok (.iload_n 1, 1) := by decide +kernel
theorem d378_133 : decode prog_13_method_162_code 133 = .ok (.iadd, 1) := by decide +kernel
theorem d378_134 : decode prog_13_method_162_code 134 = .ok (.iload 5, 2) := by decide +kernel
theorem d378_136 : decode prog_13_method_162_code 136 = .ok (.iastore, 1) := by decide +kernel
theorem d378_137 : decode prog_13_method_162_code 137 = .ok (.aload_n 0, 1) := by decide +kernel
theorem d378_138 : decode prog_13_method_162_code 138 = .ok (.invokevirtual 261, 3) := by decide +kernel
theorem d378_141 : decode prog_13_method_162_code 141 = .ok (.iload 6, 2) := by decide +kernel
theorem d378_143 : decode prog_13_method_162_code 143 = .ok (.ireturn, 1) := by decide +kernel
set_option maxRecDepth 100000 in
theorem q379 : xMc 379 = prog_13_method_163_code := rfl
theorem m379 : xMl 379 = 4 ∧ xMret 379 = (some FieldType.int) ∧ xMh 379 = [] := by decide +kernel
theorem e379 {X : xX} {d : Nat} {w : xH} {Q : xO → xH → Prop} (a : Nat) (x0 : Int32) : Cw X d 379 [.ref a, .int x0] w Q = Wx X d 379 0 [some (.ref a), some (.int x0), none, none] [] w Q := by
  unfold Cw
  rw [m379.1]
  rfl
theorem d379_0 : decode prog_13_method_163_code 0 = .ok (.aload_n 0, 1) := by decide +kernel
theorem d379_1 : decode prog_13_method_163_code 1 = .ok (.iload_n 1, 1) := by decide +kernel
theorem d379_2 : decode prog_13_method_163_code 2 = .ok (.invokestatic 392, 3) := by decide +kernel
theorem k379_392_99 : xCa (xMo 379) 392 99 = some (0, 262, 1) := by decide +kernel
theorem d379_5 : decode prog_13_method_163_code 5 = .ok (.invokevirtual 395, 3) := by decide +kernel
theorem k379_395_11 : xCa (xMo 379) 395 11 = some (1, 263, 1) := by decide +kernel
theorem n379_395 : xcn (xMo 379) 395 = some 1 := by decide +kernel
theorem d379_8 : decode prog_13_method_163_code 8 = .ok (.ifCond .ne 5, 3) := by decide +kernel
theorem d379_11 : decode prog_13_method_163_code 11 = .ok (.iconst 0, 1) := by decide +kernel
theorem d379_12 : decode prog_13_method_163_code 12 = .ok (.ireturn, 1) := by decide +kernel
theorem d379_13 : decode prog_13_method_163_code 13 = .ok (.aload_n 0, 1) := by decide +kernel
theorem d379_14 : decode prog_13_method_163_code 14 = .ok (.getfield 7, 3) := by decide +kernel
theorem f379_7 : xFd (xMo 379) 7 = some (11, 0) := by decide +kernel
theorem d379_17 : decode prog_13_method_163_code 17 = .ok (.iload_n 1, 1) := by decide +kernel
theorem d379_18 : decode prog_13_method_163_code 18 = .ok (.iaload, 1) := by decide +kernel
theorem d379_19 : decode prog_13_method_163_code 19 = .ok (.istore_n 2, 1) := by decide +kernel
theorem d379_20 : decode prog_13_method_163_code 20 = .ok (.aload_n 0, 1) := by decide +kernel
theorem d379_21 : decode prog_13_method_163_code 21 = .ok (.getfield 7, 3) := by decide +kernel
theorem d379_24 : decode prog_13_method_163_code 24 = .ok (.iload_n 1, 1) := by decide +kernel
theorem d379_25 : decode prog_13_method_163_code 25 = .ok (.iconst 0, 1) := by decide +kernel
theorem d379_26 : decode prog_13_method_163_code 26 = .ok (.iastore, 1) := by decide +kernel
theorem d379_27 : decode prog_13_method_163_code 27 = .ok (.aload_n 0, 1) := by decide +kernel
theorem d379_28 : decode prog_13_method_163_code 28 = .ok (.invokevirtual 261, 3) := by decide +kernel
theorem k379_261_11 : xCa (xMo 379) 261 11 = some (1, 271, 0) := by decide +kernel
theorem n379_261 : xcn (xMo 379) 261 = some 0 := by decide +kernel
theorem d379_31 : decode prog_13_method_163_code 31 = .ok (.aload_n 0, 1) := by decide +kernel
theorem d379_32 : decode prog_13_method_163_code 32 = .ok (.invokevirtual 546, 3) := by decide +kernel
theorem k379_546_11 : xCa (xMo 379) 546 11 = some (1, 368, 0) := by decide +kernel
theorem n379_546 : xcn (xMo 379) 546 = some 0 := by decide +kernel
theorem d379_35 : decode prog_13_method_163_code 35 = .ok (.istore_n 3, 1) := by decide +kernel
theorem d379_36 : decode prog_13_method_163_code 36 = .ok (.aload_n 0, 1) := by decide +kernel
theorem d379_37 : decode prog_13_method_163_code 37 = .ok (.getfield 7, 3) := by decide +kernel
theorem d379_40 : decode prog_13_method_163_code 40 = .ok (.iload_n 1, 1) := by decide +kernel
theorem d379_41 : decode prog_13_method_163_code 41 = .ok (.iload_n 2, 1) := by decide +kernel
theorem d379_42 : decode prog_13_method_163_code 42 = .ok (.iastore, 1) := by decide +kernel
theorem d379_43 : decode prog_13_method_163_code 43 = .ok (.aload_n 0, 1) := by decide +kernel
theorem d379_44 : decode prog_13_method_163_code 44 = .ok (.invokevirtual 261, 3) := by decide +kernel
theorem d379_47 : decode prog_13_method_163_code 47 = .ok (.iload_n 3, 1) := by decide +kernel
theorem d379_48 : decode prog_13_method_163_code 48 = .ok (.ireturn, 1) := by decide +kernel
end
