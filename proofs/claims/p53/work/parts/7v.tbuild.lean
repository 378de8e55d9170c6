/-! Texts: the builder -/
section
set_option maxRecDepth 100000 in
theorem q381 : xMc 381 = prog_24_method_7_code := rfl
theorem m381 : xMl 381 = 2 ∧ xMret 381 = (some (FieldType.object "java/lang/StringBuilder")) ∧ xMh 381 = [] := by decide +kernel
theorem e381 {X : xX} {d : Nat} {w : xH} {Q : xO → xH → Prop} (a : Nat) (x0 : Nat) : Cw X d 381 [.ref a, .retAddr x0] w Q = Wx X d 381 0 [some (.ref a), some (.retAddr x0)] [] w Q := by
  unfold Cw
  rw [m381.1]
  rfl
theorem d381_0 : decode prog_24_method_7_code 0 = .ok (.aload_n 0, 1) := by decide +kernel
theorem d381_1 : decode prog_24_method_7_code 1 = .ok (.aload_n 1, 1) := by decide +kernel
theorem d381_2 : decode prog_24_method_7_code 2 = .ok (.invokespecial 29, 3) := by decide +kernel
theorem k381_29_98 : xCa (xMo 381) 29 98 = some (6, 388, 1) := by decide +kernel
theorem d381_5 : decode prog_24_method_7_code 5 = .ok (.pop, 1) := by decide +kernel
theorem d381_6 : decode prog_24_method_7_code 6 = .ok (.aload_n 0, 1) := by decide +kernel
theorem d381_7 : decode prog_24_method_7_code 7 = .ok (.areturn, 1) := by decide +kernel
set_option maxRecDepth 100000 in
theorem q382 : xMc 382 = prog_24_method_14_code := rfl
theorem m382 : xMl 382 = 2 ∧ xMret 382 = (some (FieldType.object "java/lang/StringBuilder")) ∧ xMh 382 = [] := by decide +kernel
theorem e382 {X : xX} {d : Nat} {w : xH} {Q : xO → xH → Prop} (a : Nat) (x0 : Int32) : Cw X d 382 [.ref a, .int x0] w Q = Wx X d 382 0 [some (.ref a), some (.int x0)] [] w Q := by
  unfold Cw
  rw [m382.1]
  rfl
theorem d382_0 : decode prog_24_method_14_code 0 = .ok (.aload_n 0, 1) := by decide +kernel
theorem d382_1 : decode prog_24_method_14_code 1 = .ok (.iload_n 1, 1) := by decide +kernel
theorem d382_2 : decode prog_24_method_14_code 2 = .ok (.invokespecial 50, 3) := by decide +kernel
theorem k382_50_98 : xCa (xMo 382) 50 98 = some (6, 389, 1) := by decide +kernel
theorem d382_5 : decode prog_24_method_14_code 5 = .ok (.pop, 1) := by decide +kernel
theorem d382_6 : decode prog_24_method_14_code 6 = .ok (.aload_n 0, 1) := by decide +kernel
theorem d382_7 : decode prog_24_method_14_code 7 = .ok (.areturn, 1) := by decide +kernel
set_option maxRecDepth 100000 in
theorem q383 : xMc 383 = prog_24_method_15_code := rfl
theorem m383 : xMl 383 = 2 ∧ xMret 383 = (some (FieldType.object "java/lang/StringBuilder")) ∧ xMh 383 = [] := by decide +kernel
theorem e383 {X : xX} {d : Nat} {w : xH} {Q : xO → xH → Prop} (a : Nat) (x0 : Int32) : Cw X d 383 [.ref a, .int x0] w Q = Wx X d 383 0 [some (.ref a), some (.int x0)] [] w Q := by
  unfold Cw
  rw [m383.1]
  rfl
theorem d383_0 : decode prog_24_method_15_code 0 = .ok (.aload_n 0, 1) := by decide +kernel
theorem d383_1 : decode prog_24_method_15_code 1 = .ok (.iload_n 1, 1) := by decide +kernel
theorem d383_2 : decode prog_24_method_15_code 2 = .ok (.invokespecial 53, 3) := by decide +kernel
theorem k383_53_98 : xCa (xMo 383) 53 98 = some (6, 390, 1) := by decide +kernel
theorem d383_5 : decode prog_24_method_15_code 5 = .ok (.pop, 1) := by decide +kernel
theorem d383_6 : decode prog_24_method_15_code 6 = .ok (.aload_n 0, 1) := by decide +kernel
theorem d383_7 : decode prog_24_method_15_code 7 = .ok (.areturn, 1) := by decide +kernel
set_option maxRecDepth 100000 in
theorem q384 : xMc 384 = prog_24_method_88_code := rfl
theorem m384 : xMl 384 = 2 ∧ xMret 384 = (some FieldType.char) ∧ xMh 384 = [] := by decide +kernel
theorem e384 {X : xX} {d : Nat} {w : xH} {Q : xO → xH → Prop} (a : Nat) (x0 : Int32) : Cw X d 384 [.ref a, .int x0] w Q = Wx X d 384 0 [some (.ref a), some (.int x0)] [] w Q := by
  unfold Cw
  rw [m384.1]
  rfl
theorem d384_0 : decode prog_24_method_88_code 0 = .ok (.aload_n 0, 1) := by decide +kernel
theorem d384_1 : decode prog_24_method_88_code 1 = .ok (.iload_n 1, 1) := by decide +kernel
theorem d384_2 : decode prog_24_method_88_code 2 = .ok (.invokespecial 329, 3) := by decide +kernel
theorem k384_329_98 : xCa (xMo 384) 329 98 = some (6, 391, 1) := by decide +kernel
theorem d384_5 : decode prog_24_method_88_code 5 = .ok (.ireturn, 1) := by decide +kernel
set_option maxRecDepth 100000 in
theorem q385 : xMc 385 = prog_24_method_93_code := rfl
theorem m385 : xMl 385 = 1 ∧ xMret 385 = (some FieldType.int) ∧ xMh 385 = [] := by decide +kernel
theorem e385 {X : xX} {d : Nat} {w : xH} {Q : xO → xH → Prop} (a : Nat) : Cw X d 385 [.ref a] w Q = Wx X d 385 0 [some (.ref a)] [] w Q := by
  unfold Cw
  rw [m385.1]
  rfl
theorem d385_0 : decode prog_24_method_93_code 0 = .ok (.aload_n 0, 1) := by decide +kernel
theorem d385_1 : decode prog_24_method_93_code 1 = .ok (.invokespecial 343, 3) := by decide +kernel
theorem k385_343_98 : xCa (xMo 385) 343 98 = some (6, 392, 0) := by decide +kernel
theorem d385_4 : decode prog_24_method_93_code 4 = .ok (.ireturn, 1) := by decide +kernel
set_option maxRecDepth 100000 in
theorem q386 : xMc 386 = prog_24_method_89_code := rfl
theorem m386 : xMl 386 = 2 ∧ xMret 386 = none ∧ xMh 386 = [] := by decide +kernel
theorem e386 {X : xX} {d : Nat} {w : xH} {Q : xO → xH → Prop} (a : Nat) (x0 : Int32) : Cw X d 386 [.ref a, .int x0] w Q = Wx X d 386 0 [some (.ref a), some (.int x0)] [] w Q := by
  unfold Cw
  rw [m386.1]
  rfl
theorem d386_0 : decode prog_24_method_89_code 0 = .ok (.aload_n 0, 1) := by decide +kernel
theorem d386_1 : decode prog_24_method_89_code 1 = .ok (.iload_n 1, 1) := by decide +kernel
theorem d386_2 : decode prog_24_method_89_code 2 = .ok (.invokespecial 333, 3) := by decide +kernel
theorem k386_333_98 : xCa (xMo 386) 333 98 = some (6, 393, 1) := by decide +kernel
theorem d386_5 : decode prog_24_method_89_code 5 = .ok (.return_, 1) := by decide +kernel
set_option maxRecDepth 100000 in
theorem q388 : xMc 388 = prog_14_method_22_code := rfl
theorem m388 : xMl 388 = 3 ∧ xMret 388 = (some (FieldType.object "java/lang/AbstractStringBuilder")) ∧ xMh 388 = [] := by decide +kernel
theorem e388 {X : xX} {d : Nat} {w : xH} {Q : xO → xH → Prop} (a : Nat) (x0 : Nat) : Cw X d 388 [.ref a, .retAddr x0] w Q = Wx X d 388 0 [some (.ref a), some (.retAddr x0), none] [] w Q := by
  unfold Cw
  rw [m388.1]
  rfl
theorem d388_0 : decode prog_14_method_22_code 0 = .ok (.aload_n 1, 1) := by decide +kernel
theorem d388_1 : decode prog_14_method_22_code 1 = .ok (.ifnonnull 8, 3) := by decide +kernel
theorem d388_4 : decode prog_14_method_22_code 4 = .ok (.aload_n 0, 1) := by decide +kernel
theorem d388_5 : decode prog_14_method_22_code 5 = .ok (.invokevirtual 204, 3) := by decide +kernel
theorem d388_8 : decode prog_14_method_22_code 8 = .ok (.areturn, 1) := by decide +kernel
theorem d388_9 : decode prog_14_method_22_code 9 = .ok (.aload_n 1, 1) := by decide +kernel
theorem d388_10 : decode prog_14_method_22_code 10 = .ok (.invokevirtual 32, 3) := by decide +kernel
theorem k388_32_0 : xCa (xMo 388) 32 0 = some (1, 399, 0) := by decide +kernel
theorem n388_32 : xcn (xMo 388) 32 = some 0 := by decide +kernel
theorem d388_13 : decode prog_14_method_22_code 13 = .ok (.istore_n 2, 1) := by decide +kernel
theorem d388_14 : decode prog_14_method_22_code 14 = .ok (.aload_n 0, 1) := by decide +kernel
theorem d388_15 : decode prog_14_method_22_code 15 = .ok (.aload_n 0, 1) := by decide +kernel
theorem d388_16 : decode prog_14_method_22_code 16 = .ok (.getfield 79, 3) := by decide +kernel
theorem f388_79 : xFd (xMo 388) 79 = some (1, 3) := by decide +kernel
theorem d388_19 : decode prog_14_method_22_code 19 = .ok (.iload_n 2, 1) := by decide +kernel
theorem d388_20 : decode prog_14_method_22_code 20 = .ok (.iadd, 1) := by decide +kernel
theorem d388_21 : decode prog_14_method_22_code 21 = .ok (.invokevirtual 100, 3) := by decide +kernel
theorem k388_100_1 : xCa (xMo 388) 100 1 = some (5, 394, 1) := by decide +kernel
theorem n388_100 : xcn (xMo 388) 100 = some 1 := by decide +kernel
theorem d388_24 : decode prog_14_method_22_code 24 = .ok (.aload_n 0, 1) := by decide +kernel
theorem d388_25 : decode prog_14_method_22_code 25 = .ok (.aload_n 0, 1) := by decide +kernel
theorem d388_26 : decode prog_14_method_22_code 26 = .ok (.getfield 79, 3) := by decide +kernel
theorem d388_29 : decode prog_14_method_22_code 29 = .ok (.aload_n 1, 1) := by decide +kernel
theorem d388_30 : decode prog_14_method_22_code 30 = .ok (.invokevirtual 208, 3) := by decide +kernel
theorem k388_208_1 : xCa (xMo 388) 208 1 = some (5, 397, 2) := by decide +kernel
theorem n388_208 : xcn (xMo 388) 208 = some 2 := by decide +kernel
theorem d388_33 : decode prog_14_method_22_code 33 = .ok (.aload_n 0, 1) := by decide +kernel
theorem d388_34 : decode prog_14_method_22_code 34 = .ok (.dup, 1) := by decide +kernel
theorem d388_35 : decode prog_14_method_22_code 35 = .ok (.getfield 79, 3) := by decide +kernel
theorem d388_38 : decode prog_14_method_22_code 38 = .ok (.iload_n 2, 1) := by decide +kernel
theorem d388_39 : decode prog_14_method_22_code 39 = .ok (.iadd, 1) := by decide +kernel
theorem d388_40 : decode prog_14_method_22_code 40 = .ok (.putfield 79, 3) := by decide +kernel
theorem d388_43 : decode prog_14_method_22_code 43 = .ok (.aload_n 0, 1) := by decide +kernel
theorem d388_44 : decode prog_14_method_22_code 44 = .ok (.areturn, 1) := by decide +kernel
set_option maxRecDepth 100000 in
theorem q389 : xMc 389 = prog_14_method_31_code := rfl
theorem m389 : xMl 389 = 2 ∧ xMret 389 = (some (FieldType.object "java/lang/AbstractStringBuilder")) ∧ xMh 389 = [] := by decide +kernel
theorem e389 {X : xX} {d : Nat} {w : xH} {Q : xO → xH → Prop} (a : Nat) (x0 : Int32) : Cw X d 389 [.ref a, .int x0] w Q = Wx X d 389 0 [some (.ref a), some (.int x0)] [] w Q := by
  unfold Cw
  rw [m389.1]
  rfl
theorem d389_0 : decode prog_14_method_31_code 0 = .ok (.aload_n 0, 1) := by decide +kernel
theorem d389_1 : decode prog_14_method_31_code 1 = .ok (.aload_n 0, 1) := by decide +kernel
theorem d389_2 : decode prog_14_method_31_code 2 = .ok (.getfield 79, 3) := by decide +kernel
theorem f389_79 : xFd (xMo 389) 79 = some (1, 3) := by decide +kernel
theorem d389_5 : decode prog_14_method_31_code 5 = .ok (.iconst 1, 1) := by decide +kernel
theorem d389_6 : decode prog_14_method_31_code 6 = .ok (.iadd, 1) := by decide +kernel
theorem d389_7 : decode prog_14_method_31_code 7 = .ok (.invokevirtual 100, 3) := by decide +kernel
theorem k389_100_1 : xCa (xMo 389) 100 1 = some (5, 394, 1) := by decide +kernel
theorem n389_100 : xcn (xMo 389) 100 = some 1 := by decide +kernel
theorem d389_10 : decode prog_14_method_31_code 10 = .ok (.aload_n 0, 1) := by decide +kernel
theorem d389_11 : decode prog_14_method_31_code 11 = .ok (.invokevirtual 83, 3) := by decide +kernel
theorem k389_83_1 : xCa (xMo 389) 83 1 = some (5, 396, 0) := by decide +kernel
theorem n389_83 : xcn (xMo 389) 83 = some 0 := by decide +kernel
theorem d389_14 : decode prog_14_method_31_code 14 = .ok (.ifCond .eq 31, 3) := by decide +kernel
theorem d389_17 : decode prog_14_method_31_code 17 = .ok (.iload_n 1, 1) := by decide +kernel
theorem d389_18 : decode prog_14_method_31_code 18 = .ok (.invokestatic 191, 3) := by decide +kernel
theorem k389_191_99 : xCa (xMo 389) 191 99 = some (0, 405, 1) := by decide +kernel
theorem d389_21 : decode prog_14_method_31_code 21 = .ok (.ifCond .eq 24, 3) := by decide +kernel
theorem d389_24 : decode prog_14_method_31_code 24 = .ok (.aload_n 0, 1) := by decide +kernel
theorem d389_25 : decode prog_14_method_31_code 25 = .ok (.getfield 15, 3) := by decide +kernel
theorem f389_15 : xFd (xMo 389) 15 = some (1, 0) := by decide +kernel
theorem d389_28 : decode prog_14_method_31_code 28 = .ok (.aload_n 0, 1) := by decide +kernel
theorem d389_29 : decode prog_14_method_31_code 29 = .ok (.dup, 1) := by decide +kernel
theorem d389_30 : decode prog_14_method_31_code 30 = .ok (.getfield 79, 3) := by decide +kernel
theorem d389_33 : decode prog_14_method_31_code 33 = .ok (.dup_x1, 1) := by decide +kernel
theorem d389_34 : decode prog_14_method_31_code 34 = .ok (.iconst 1, 1) := by decide +kernel
theorem d389_35 : decode prog_14_method_31_code 35 = .ok (.iadd, 1) := by decide +kernel
theorem d389_36 : decode prog_14_method_31_code 36 = .ok (.putfield 79, 3) := by decide +kernel
theorem d389_39 : decode prog_14_method_31_code 39 = .ok (.iload_n 1, 1) := by decide +kernel
theorem d389_40 : decode prog_14_method_31_code 40 = .ok (.i2b, 1) := by decide +kernel
theorem d389_41 : decode prog_14_method_31_code 41 = .ok (.bastore, 1) := by decide +kernel
theorem d389_42 : decode prog_14_method_31_code 42 = .ok (.goto 33, 3) := by decide +kernel
theorem d389_45 : decode prog_14_method_31_code 45 = .ok (.aload_n 0, 1) := by decide +kernel
theorem d389_46 : decode prog_14_method_31_code 46 = .ok (.invokevirtual 83, 3) := by decide +kernel
theorem d389_49 : decode prog_14_method_31_code 49 = .ok (.ifCond .eq 7, 3) := by decide +kernel
theorem d389_52 : decode prog_14_method_31_code 52 = .ok (.aload_n 0, 1) := by decide +kernel
theorem d389_53 : decode prog_14_method_31_code 53 = .ok (.invokevirtual 195, 3) := by decide +kernel
theorem d389_56 : decode prog_14_method_31_code 56 = .ok (.aload_n 0, 1) := by decide +kernel
theorem d389_57 : decode prog_14_method_31_code 57 = .ok (.getfield 15, 3) := by decide +kernel
theorem d389_60 : decode prog_14_method_31_code 60 = .ok (.aload_n 0, 1) := by decide +kernel
theorem d389_61 : decode prog_14_method_31_code 61 = .ok (.dup, 1) := by decide +kernel
theorem d389_62 : decode prog_14_method_31_code 62 = .ok (.getfield 79, 3) := by decide +kernel
theorem d389_65 : decode prog_14_method_31_code 65 = .ok (.dup_x1, 1) := by decide +kernel
theorem d389_66 : decode prog_14_method_31_code 66 = .ok (.iconst 1, 1) := by decide +kernel
theorem d389_67 : decode prog_14_method_31_code 67 = .ok (.iadd, 1) := by decide +kernel
theorem d389_68 : decode prog_14_method_31_code 68 = .ok (.putfield 79, 3) := by decide +kernel
theorem d389_71 : decode prog_14_method_31_code 71 = .ok (.iload_n 1, 1) := by decide +kernel
theorem d389_72 : decode prog_14_method_31_code 72 = .ok (.invokestatic 197, 3) := by decide +kernel
theorem d389_75 : decode prog_14_method_31_code 75 = .ok (.aload_n 0, 1) := by decide +kernel
theorem d389_76 : decode prog_14_method_31_code 76 = .ok (.areturn, 1) := by decide +kernel
set_option maxRecDepth 100000 in
theorem q390 : xMc 390 = prog_14_method_32_code := rfl
theorem m390 : xMl 390 = 4 ∧ xMret 390 = (some (FieldType.object "java/lang/AbstractStringBuilder")) ∧ xMh 390 = [] := by decide +kernel
theorem e390 {X : xX} {d : Nat} {w : xH} {Q : xO → xH → Prop} (a : Nat) (x0 : Int32) : Cw X d 390 [.ref a, .int x0] w Q = Wx X d 390 0 [some (.ref a), some (.int x0), none, none] [] w Q := by
  unfold Cw
  rw [m390.1]
  rfl
theorem d390_0 : decode prog_14_method_32_code 0 = .ok (.aload_n 0, 1) := by decide +kernel
theorem d390_1 : decode prog_14_method_32_code 1 = .ok (.getfield 79, 3) := by decide +kernel
theorem f390_79 : xFd (xMo 390) 79 = some (1, 3) := by decide +kernel
theorem d390_4 : decode prog_14_method_32_code 4 = .ok (.istore_n 2, 1) := by decide +kernel
theorem d390_5 : decode prog_14_method_32_code 5 = .ok (.iload_n 2, 1) := by decide +kernel
theorem d390_6 : decode prog_14_method_32_code 6 = .ok (.iload_n 1, 1) := by decide +kernel
theorem d390_7 : decode prog_14_method_32_code 7 = .ok (.invokestatic 245, 3) := by decide +kernel
theorem k390_245_99 : xCa (xMo 390) 245 99 = some (0, 414, 1) := by decide +kernel
theorem d390_10 : decode prog_14_method_32_code 10 = .ok (.iadd, 1) := by decide +kernel
theorem d390_11 : decode prog_14_method_32_code 11 = .ok (.istore_n 3, 1) := by decide +kernel
theorem d390_12 : decode prog_14_method_32_code 12 = .ok (.aload_n 0, 1) := by decide +kernel
theorem d390_13 : decode prog_14_method_32_code 13 = .ok (.iload_n 3, 1) := by decide +kernel
theorem d390_14 : decode prog_14_method_32_code 14 = .ok (.invokevirtual 100, 3) := by decide +kernel
theorem k390_100_1 : xCa (xMo 390) 100 1 = some (5, 394, 1) := by decide +kernel
theorem n390_100 : xcn (xMo 390) 100 = some 1 := by decide +kernel
theorem d390_17 : decode prog_14_method_32_code 17 = .ok (.aload_n 0, 1) := by decide +kernel
theorem d390_18 : decode prog_14_method_32_code 18 = .ok (.invokevirtual 83, 3) := by decide +kernel
theorem k390_83_1 : xCa (xMo 390) 83 1 = some (5, 396, 0) := by decide +kernel
theorem n390_83 : xcn (xMo 390) 83 = some 0 := by decide +kernel
theorem d390_21 : decode prog_14_method_32_code 21 = .ok (.ifCond .eq 16, 3) := by decide +kernel
theorem d390_24 : decode prog_14_method_32_code 24 = .ok (.iload_n 1, 1) := by decide +kernel
theorem d390_25 : decode prog_14_method_32_code 25 = .ok (.iload_n 3, 1) := by decide +kernel
theorem d390_26 : decode prog_14_method_32_code 26 = .ok (.aload_n 0, 1) := by decide +kernel
theorem d390_27 : decode prog_14_method_32_code 27 = .ok (.getfield 15, 3) := by decide +kernel
theorem f390_15 : xFd (xMo 390) 15 = some (1, 0) := by decide +kernel
theorem d390_30 : decode prog_14_method_32_code 30 = .ok (.invokestatic 248, 3) := by decide +kernel
theorem k390_248_99 : xCa (xMo 390) 248 99 = some (0, 415, 3) := by decide +kernel
theorem d390_33 : decode prog_14_method_32_code 33 = .ok (.pop, 1) := by decide +kernel
theorem d390_34 : decode prog_14_method_32_code 34 = .ok (.goto 14, 3) := by decide +kernel
theorem d390_37 : decode prog_14_method_32_code 37 = .ok (.iload_n 1, 1) := by decide +kernel
theorem d390_38 : decode prog_14_method_32_code 38 = .ok (.iload_n 2, 1) := by decide +kernel
theorem d390_39 : decode prog_14_method_32_code 39 = .ok (.iload_n 3, 1) := by decide +kernel
theorem d390_40 : decode prog_14_method_32_code 40 = .ok (.aload_n 0, 1) := by decide +kernel
theorem d390_41 : decode prog_14_method_32_code 41 = .ok (.getfield 15, 3) := by decide +kernel
theorem d390_44 : decode prog_14_method_32_code 44 = .ok (.invokestatic 251, 3) := by decide +kernel
theorem d390_47 : decode prog_14_method_32_code 47 = .ok (.pop, 1) := by decide +kernel
theorem d390_48 : decode prog_14_method_32_code 48 = .ok (.aload_n 0, 1) := by decide +kernel
theorem d390_49 : decode prog_14_method_32_code 49 = .ok (.iload_n 3, 1) := by decide +kernel
theorem d390_50 : decode prog_14_method_32_code 50 = .ok (.putfield 79, 3) := by decide +kernel
theorem d390_53 : decode prog_14_method_32_code 53 = .ok (.aload_n 0, 1) := by decide +kernel
theorem d390_54 : decode prog_14_method_32_code 54 = .ok (.areturn, 1) := by decide +kernel
set_option maxRecDepth 100000 in
theorem q391 : xMc 391 = prog_14_method_14_code := rfl
theorem m391 : xMl 391 = 5 ∧ xMret 391 = (some FieldType.char) ∧ xMh 391 = [] := by decide +kernel
theorem e391 {X : xX} {d : Nat} {w : xH} {Q : xO → xH → Prop} (a : Nat) (x0 : Int32) : Cw X d 391 [.ref a, .int x0] w Q = Wx X d 391 0 [some (.ref a), some (.int x0), none, none, none] [] w Q := by
  unfold Cw
  rw [m391.1]
  rfl
theorem d391_0 : decode prog_14_method_14_code 0 = .ok (.aload_n 0, 1) := by decide +kernel
theorem d391_1 : decode prog_14_method_14_code 1 = .ok (.getfield 22, 3) := by decide +kernel
theorem f391_22 : xFd (xMo 391) 22 = some (1, 1) := by decide +kernel
theorem d391_4 : decode prog_14_method_14_code 4 = .ok (.istore_n 2, 1) := by decide +kernel
theorem d391_5 : decode prog_14_method_14_code 5 = .ok (.aload_n 0, 1) := by decide +kernel
theorem d391_6 : decode prog_14_method_14_code 6 = .ok (.getfield 15, 3) := by decide +kernel
theorem f391_15 : xFd (xMo 391) 15 = some (1, 0) := by decide +kernel
theorem d391_9 : decode prog_14_method_14_code 9 = .ok (.astore_n 3, 1) := by decide +kernel
theorem d391_10 : decode prog_14_method_14_code 10 = .ok (.aload_n 0, 1) := by decide +kernel
theorem d391_11 : decode prog_14_method_14_code 11 = .ok (.getfield 79, 3) := by decide +kernel
theorem f391_79 : xFd (xMo 391) 79 = some (1, 3) := by decide +kernel
theorem d391_14 : decode prog_14_method_14_code 14 = .ok (.aload_n 3, 1) := by decide +kernel
theorem d391_15 : decode prog_14_method_14_code 15 = .ok (.arraylength, 1) := by decide +kernel
theorem d391_16 : decode prog_14_method_14_code 16 = .ok (.iload_n 2, 1) := by decide +kernel
theorem d391_17 : decode prog_14_method_14_code 17 = .ok (.ishr, 1) := by decide +kernel
theorem d391_18 : decode prog_14_method_14_code 18 = .ok (.invokestatic 138, 3) := by decide +kernel
theorem k391_138_99 : xCa (xMo 391) 138 99 = some (0, 409, 2) := by decide +kernel
theorem d391_21 : decode prog_14_method_14_code 21 = .ok (.istore 4, 2) := by decide +kernel
theorem d391_23 : decode prog_14_method_14_code 23 = .ok (.iload_n 1, 1) := by decide +kernel
theorem d391_24 : decode prog_14_method_14_code 24 = .ok (.iload 4, 2) := by decide +kernel
theorem d391_26 : decode prog_14_method_14_code 26 = .ok (.invokestatic 144, 3) := by decide +kernel
theorem k391_144_99 : xCa (xMo 391) 144 99 = some (0, 403, 2) := by decide +kernel
theorem d391_29 : decode prog_14_method_14_code 29 = .ok (.iload_n 2, 1) := by decide +kernel
theorem d391_30 : decode prog_14_method_14_code 30 = .ok (.ifCond .ne 12, 3) := by decide +kernel
theorem d391_33 : decode prog_14_method_14_code 33 = .ok (.aload_n 3, 1) := by decide +kernel
theorem d391_34 : decode prog_14_method_14_code 34 = .ok (.iload_n 1, 1) := by decide +kernel
theorem d391_35 : decode prog_14_method_14_code 35 = .ok (.baload, 1) := by decide +kernel
theorem d391_36 : decode prog_14_method_14_code 36 = .ok (.sipush 255, 3) := by decide +kernel
theorem d391_39 : decode prog_14_method_14_code 39 = .ok (.iand, 1) := by decide +kernel
theorem d391_40 : decode prog_14_method_14_code 40 = .ok (.i2c, 1) := by decide +kernel
theorem d391_41 : decode prog_14_method_14_code 41 = .ok (.ireturn, 1) := by decide +kernel
theorem d391_42 : decode prog_14_method_14_code 42 = .ok (.aload_n 3, 1) := by decide +kernel
theorem d391_43 : decode prog_14_method_14_code 43 = .ok (.iload_n 1, 1) := by decide +kernel
theorem d391_44 : decode prog_14_method_14_code 44 = .ok (.invokestatic 148, 3) := by decide +kernel
theorem d391_47 : decode prog_14_method_14_code 47 = .ok (.ireturn, 1) := by decide +kernel
set_option maxRecDepth 100000 in
theorem q392 : xMc 392 = prog_14_method_6_code := rfl
theorem m392 : xMl 392 = 1 ∧ xMret 392 = (some FieldType.int) ∧ xMh 392 = [] := by decide +kernel
theorem e392 {X : xX} {d : Nat} {w : xH} {Q : xO → xH → Prop} (a : Nat) : Cw X d 392 [.ref a] w Q = Wx X d 392 0 [some (.ref a)] [] w Q := by
  unfold Cw
  rw [m392.1]
  rfl
theorem d392_0 : decode prog_14_method_6_code 0 = .ok (.aload_n 0, 1) := by decide +kernel
theorem d392_1 : decode prog_14_method_6_code 1 = .ok (.getfield 79, 3) := by decide +kernel
theorem f392_79 : xFd (xMo 392) 79 = some (1, 3) := by decide +kernel
theorem d392_4 : decode prog_14_method_6_code 4 = .ok (.ireturn, 1) := by decide +kernel
set_option maxRecDepth 100000 in
theorem q393 : xMc 393 = prog_14_method_13_code := rfl
theorem m393 : xMl 393 = 2 ∧ xMret 393 = none ∧ xMh 393 = [] := by decide +kernel
theorem e393 {X : xX} {d : Nat} {w : xH} {Q : xO → xH → Prop} (a : Nat) (x0 : Int32) : Cw X d 393 [.ref a, .int x0] w Q = Wx X d 393 0 [some (.ref a), some (.int x0)] [] w Q := by
  unfold Cw
  rw [m393.1]
  rfl
theorem d393_0 : decode prog_14_method_13_code 0 = .ok (.iload_n 1, 1) := by decide +kernel
theorem d393_1 : decode prog_14_method_13_code 1 = .ok (.ifCond .ge 12, 3) := by decide +kernel
theorem d393_4 : decode prog_14_method_13_code 4 = .ok (.new 129, 3) := by decide +kernel
theorem d393_7 : decode prog_14_method_13_code 7 = .ok (.dup, 1) := by decide +kernel
theorem d393_8 : decode prog_14_method_13_code 8 = .ok (.iload_n 1, 1) := by decide +kernel
theorem d393_9 : decode prog_14_method_13_code 9 = .ok (.invokespecial 131, 3) := by decide +kernel
theorem d393_12 : decode prog_14_method_13_code 12 = .ok (.athrow, 1) := by decide +kernel
theorem d393_13 : decode prog_14_method_13_code 13 = .ok (.aload_n 0, 1) := by decide +kernel
theorem d393_14 : decode prog_14_method_13_code 14 = .ok (.iload_n 1, 1) := by decide +kernel
theorem d393_15 : decode prog_14_method_13_code 15 = .ok (.invokevirtual 100, 3) := by decide +kernel
theorem k393_100_1 : xCa (xMo 393) 100 1 = some (5, 394, 1) := by decide +kernel
theorem n393_100 : xcn (xMo 393) 100 = some 1 := by decide +kernel
theorem d393_18 : decode prog_14_method_13_code 18 = .ok (.aload_n 0, 1) := by decide +kernel
theorem d393_19 : decode prog_14_method_13_code 19 = .ok (.getfield 79, 3) := by decide +kernel
theorem f393_79 : xFd (xMo 393) 79 = some (1, 3) := by decide +kernel
theorem d393_22 : decode prog_14_method_13_code 22 = .ok (.iload_n 1, 1) := by decide +kernel
theorem d393_23 : decode prog_14_method_13_code 23 = .ok (.if_icmp .ge 40, 3) := by decide +kernel
theorem d393_26 : decode prog_14_method_13_code 26 = .ok (.aload_n 0, 1) := by decide +kernel
theorem d393_27 : decode prog_14_method_13_code 27 = .ok (.invokevirtual 83, 3) := by decide +kernel
theorem k393_83_1 : xCa (xMo 393) 83 1 = some (5, 396, 0) := by decide +kernel
theorem n393_83 : xcn (xMo 393) 83 = some 0 := by decide +kernel
theorem d393_30 : decode prog_14_method_13_code 30 = .ok (.ifCond .eq 18, 3) := by decide +kernel
theorem d393_33 : decode prog_14_method_13_code 33 = .ok (.aload_n 0, 1) := by decide +kernel
theorem d393_34 : decode prog_14_method_13_code 34 = .ok (.getfield 15, 3) := by decide +kernel
theorem f393_15 : xFd (xMo 393) 15 = some (1, 0) := by decide +kernel
theorem d393_37 : decode prog_14_method_13_code 37 = .ok (.aload_n 0, 1) := by decide +kernel
theorem d393_38 : decode prog_14_method_13_code 38 = .ok (.getfield 79, 3) := by decide +kernel
theorem d393_41 : decode prog_14_method_13_code 41 = .ok (.iload_n 1, 1) := by decide +kernel
theorem d393_42 : decode prog_14_method_13_code 42 = .ok (.invokestatic 133, 3) := by decide +kernel
theorem d393_45 : decode prog_14_method_13_code 45 = .ok (.goto 31, 3) := by decide +kernel
theorem d393_48 : decode prog_14_method_13_code 48 = .ok (.aload_n 0, 1) := by decide +kernel
theorem d393_49 : decode prog_14_method_13_code 49 = .ok (.getfield 15, 3) := by decide +kernel
theorem d393_52 : decode prog_14_method_13_code 52 = .ok (.aload_n 0, 1) := by decide +kernel
theorem d393_53 : decode prog_14_method_13_code 53 = .ok (.getfield 79, 3) := by decide +kernel
theorem d393_56 : decode prog_14_method_13_code 56 = .ok (.iload_n 1, 1) := by decide +kernel
theorem d393_57 : decode prog_14_method_13_code 57 = .ok (.invokestatic 137, 3) := by decide +kernel
theorem d393_60 : decode prog_14_method_13_code 60 = .ok (.goto 16, 3) := by decide +kernel
theorem d393_63 : decode prog_14_method_13_code 63 = .ok (.aload_n 0, 1) := by decide +kernel
theorem d393_64 : decode prog_14_method_13_code 64 = .ok (.getfield 79, 3) := by decide +kernel
theorem d393_67 : decode prog_14_method_13_code 67 = .ok (.iload_n 1, 1) := by decide +kernel
theorem d393_68 : decode prog_14_method_13_code 68 = .ok (.if_icmp .le 8, 3) := by decide +kernel
theorem d393_71 : decode prog_14_method_13_code 71 = .ok (.aload_n 0, 1) := by decide +kernel
theorem d393_72 : decode prog_14_method_13_code 72 = .ok (.iconst 1, 1) := by decide +kernel
theorem d393_73 : decode prog_14_method_13_code 73 = .ok (.putfield 73, 3) := by decide +kernel
theorem f393_73 : xFd (xMo 393) 73 = some (1, 2) := by decide +kernel
theorem d393_76 : decode prog_14_method_13_code 76 = .ok (.aload_n 0, 1) := by decide +kernel
theorem d393_77 : decode prog_14_method_13_code 77 = .ok (.iload_n 1, 1) := by decide +kernel
theorem d393_78 : decode prog_14_method_13_code 78 = .ok (.putfield 79, 3) := by decide +kernel
theorem d393_81 : decode prog_14_method_13_code 81 = .ok (.return_, 1) := by decide +kernel
set_option maxRecDepth 100000 in
theorem q394 : xMc 394 = prog_14_method_9_code := rfl
theorem m394 : xMl 394 = 3 ∧ xMret 394 = none ∧ xMh 394 = [] := by decide +kernel
theorem e394 {X : xX} {d : Nat} {w : xH} {Q : xO → xH → Prop} (a : Nat) (x0 : Int32) : Cw X d 394 [.ref a, .int x0] w Q = Wx X d 394 0 [some (.ref a), some (.int x0), none] [] w Q := by
  unfold Cw
  rw [m394.1]
  rfl
theorem d394_0 : decode prog_14_method_9_code 0 = .ok (.aload_n 0, 1) := by decide +kernel
theorem d394_1 : decode prog_14_method_9_code 1 = .ok (.getfield 15, 3) := by decide +kernel
theorem f394_15 : xFd (xMo 394) 15 = some (1, 0) := by decide +kernel
theorem d394_4 : decode prog_14_method_9_code 4 = .ok (.arraylength, 1) := by decide +kernel
theorem d394_5 : decode prog_14_method_9_code 5 = .ok (.aload_n 0, 1) := by decide +kernel
theorem d394_6 : decode prog_14_method_9_code 6 = .ok (.getfield 22, 3) := by decide +kernel
theorem f394_22 : xFd (xMo 394) 22 = some (1, 1) := by decide +kernel
theorem d394_9 : decode prog_14_method_9_code 9 = .ok (.ishr, 1) := by decide +kernel
theorem d394_10 : decode prog_14_method_9_code 10 = .ok (.istore_n 2, 1) := by decide +kernel
theorem d394_11 : decode prog_14_method_9_code 11 = .ok (.iload_n 1, 1) := by decide +kernel
theorem d394_12 : decode prog_14_method_9_code 12 = .ok (.iload_n 2, 1) := by decide +kernel
theorem d394_13 : decode prog_14_method_9_code 13 = .ok (.isub, 1) := by decide +kernel
theorem d394_14 : decode prog_14_method_9_code 14 = .ok (.ifCond .le 24, 3) := by decide +kernel
theorem d394_17 : decode prog_14_method_9_code 17 = .ok (.aload_n 0, 1) := by decide +kernel
theorem d394_18 : decode prog_14_method_9_code 18 = .ok (.aload_n 0, 1) := by decide +kernel
theorem d394_19 : decode prog_14_method_9_code 19 = .ok (.getfield 15, 3) := by decide +kernel
theorem d394_22 : decode prog_14_method_9_code 22 = .ok (.aload_n 0, 1) := by decide +kernel
theorem d394_23 : decode prog_14_method_9_code 23 = .ok (.iload_n 1, 1) := by decide +kernel
theorem d394_24 : decode prog_14_method_9_code 24 = .ok (.invokevirtual 104, 3) := by decide +kernel
theorem k394_104_1 : xCa (xMo 394) 104 1 = some (5, 395, 1) := by decide +kernel
theorem n394_104 : xcn (xMo 394) 104 = some 1 := by decide +kernel
theorem d394_27 : decode prog_14_method_9_code 27 = .ok (.aload_n 0, 1) := by decide +kernel
theorem d394_28 : decode prog_14_method_9_code 28 = .ok (.getfield 22, 3) := by decide +kernel
theorem d394_31 : decode prog_14_method_9_code 31 = .ok (.ishl, 1) := by decide +kernel
theorem d394_32 : decode prog_14_method_9_code 32 = .ok (.invokestatic 108, 3) := by decide +kernel
theorem k394_108_99 : xCa (xMo 394) 108 99 = some (0, 407, 2) := by decide +kernel
theorem d394_35 : decode prog_14_method_9_code 35 = .ok (.putfield 15, 3) := by decide +kernel
theorem d394_38 : decode prog_14_method_9_code 38 = .ok (.return_, 1) := by decide +kernel
set_option maxRecDepth 100000 in
theorem q395 : xMc 395 = prog_14_method_10_code := rfl
theorem m395 : xMl 395 = 6 ∧ xMret 395 = (some FieldType.int) ∧ xMh 395 = [] := by decide +kernel
theorem e395 {X : xX} {d : Nat} {w : xH} {Q : xO → xH → Prop} (a : Nat) (x0 : Int32) : Cw X d 395 [.ref a, .int x0] w Q = Wx X d 395 0 [some (.ref a), some (.int x0), none, none, none, none] [] w Q := by
  unfold Cw
  rw [m395.1]
  rfl
theorem d395_0 : decode prog_14_method_10_code 0 = .ok (.aload_n 0, 1) := by decide +kernel
theorem d395_1 : decode prog_14_method_10_code 1 = .ok (.getfield 15, 3) := by decide +kernel
theorem f395_15 : xFd (xMo 395) 15 = some (1, 0) := by decide +kernel
theorem d395_4 : decode prog_14_method_10_code 4 = .ok (.arraylength, 1) := by decide +kernel
theorem d395_5 : decode prog_14_method_10_code 5 = .ok (.istore_n 2, 1) := by decide +kernel
theorem d395_6 : decode prog_14_method_10_code 6 = .ok (.iload_n 1, 1) := by decide +kernel
theorem d395_7 : decode prog_14_method_10_code 7 = .ok (.aload_n 0, 1) := by decide +kernel
theorem d395_8 : decode prog_14_method_10_code 8 = .ok (.getfield 22, 3) := by decide +kernel
theorem f395_22 : xFd (xMo 395) 22 = some (1, 1) := by decide +kernel
theorem d395_11 : decode prog_14_method_10_code 11 = .ok (.ishl, 1) := by decide +kernel
theorem d395_12 : decode prog_14_method_10_code 12 = .ok (.istore_n 3, 1) := by decide +kernel
theorem d395_13 : decode prog_14_method_10_code 13 = .ok (.iload_n 3, 1) := by decide +kernel
theorem d395_14 : decode prog_14_method_10_code 14 = .ok (.iload_n 2, 1) := by decide +kernel
theorem d395_15 : decode prog_14_method_10_code 15 = .ok (.isub, 1) := by decide +kernel
theorem d395_16 : decode prog_14_method_10_code 16 = .ok (.istore 4, 2) := by decide +kernel
theorem d395_18 : decode prog_14_method_10_code 18 = .ok (.iload_n 2, 1) := by decide +kernel
theorem d395_19 : decode prog_14_method_10_code 19 = .ok (.iload 4, 2) := by decide +kernel
theorem d395_21 : decode prog_14_method_10_code 21 = .ok (.iload_n 2, 1) := by decide +kernel
theorem d395_22 : decode prog_14_method_10_code 22 = .ok (.iconst 2, 1) := by decide +kernel
theorem d395_23 : decode prog_14_method_10_code 23 = .ok (.aload_n 0, 1) := by decide +kernel
theorem d395_24 : decode prog_14_method_10_code 24 = .ok (.getfield 22, 3) := by decide +kernel
theorem d395_27 : decode prog_14_method_10_code 27 = .ok (.ishl, 1) := by decide +kernel
theorem d395_28 : decode prog_14_method_10_code 28 = .ok (.iadd, 1) := by decide +kernel
theorem d395_29 : decode prog_14_method_10_code 29 = .ok (.invokestatic 114, 3) := by decide +kernel
theorem k395_114_99 : xCa (xMo 395) 114 99 = some (0, 408, 3) := by decide +kernel
theorem d395_32 : decode prog_14_method_10_code 32 = .ok (.istore 5, 2) := by decide +kernel
theorem d395_34 : decode prog_14_method_10_code 34 = .ok (.iload 5, 2) := by decide +kernel
theorem d395_36 : decode prog_14_method_10_code 36 = .ok (.ldc 39, 2) := by decide +kernel
theorem d395_38 : decode prog_14_method_10_code 38 = .ok (.if_icmp .ne 13, 3) := by decide +kernel
theorem d395_41 : decode prog_14_method_10_code 41 = .ok (.new 120, 3) := by decide +kernel
theorem d395_44 : decode prog_14_method_10_code 44 = .ok (.dup, 1) := by decide +kernel
theorem d395_45 : decode prog_14_method_10_code 45 = .ok (.ldc 122, 2) := by decide +kernel
theorem d395_47 : decode prog_14_method_10_code 47 = .ok (.invokespecial 124, 3) := by decide +kernel
theorem d395_50 : decode prog_14_method_10_code 50 = .ok (.athrow, 1) := by decide +kernel
theorem d395_51 : decode prog_14_method_10_code 51 = .ok (.iload 5, 2) := by decide +kernel
theorem d395_53 : decode prog_14_method_10_code 53 = .ok (.aload_n 0, 1) := by decide +kernel
theorem d395_54 : decode prog_14_method_10_code 54 = .ok (.getfield 22, 3) := by decide +kernel
theorem d395_57 : decode prog_14_method_10_code 57 = .ok (.ishr, 1) := by decide +kernel
theorem d395_58 : decode prog_14_method_10_code 58 = .ok (.ireturn, 1) := by decide +kernel
set_option maxRecDepth 100000 in
theorem q396 : xMc 396 = prog_14_method_68_code := rfl
theorem m396 : xMl 396 = 1 ∧ xMret 396 = (some FieldType.boolean) ∧ xMh 396 = [] := by decide +kernel
theorem e396 {X : xX} {d : Nat} {w : xH} {Q : xO → xH → Prop} (a : Nat) : Cw X d 396 [.ref a] w Q = Wx X d 396 0 [some (.ref a)] [] w Q := by
  unfold Cw
  rw [m396.1]
  rfl
theorem d396_0 : decode prog_14_method_68_code 0 = .ok (.getstatic 18, 3) := by decide +kernel
theorem d396_3 : decode prog_14_method_68_code 3 = .ok (.ifCond .eq 14, 3) := by decide +kernel
theorem d396_6 : decode prog_14_method_68_code 6 = .ok (.aload_n 0, 1) := by decide +kernel
theorem d396_7 : decode prog_14_method_68_code 7 = .ok (.getfield 22, 3) := by decide +kernel
theorem f396_22 : xFd (xMo 396) 22 = some (1, 1) := by decide +kernel
theorem d396_10 : decode prog_14_method_68_code 10 = .ok (.ifCond .ne 7, 3) := by decide +kernel
theorem d396_13 : decode prog_14_method_68_code 13 = .ok (.iconst 1, 1) := by decide +kernel
theorem d396_14 : decode prog_14_method_68_code 14 = .ok (.goto 4, 3) := by decide +kernel
theorem d396_17 : decode prog_14_method_68_code 17 = .ok (.iconst 0, 1) := by decide +kernel
theorem d396_18 : decode prog_14_method_68_code 18 = .ok (.ireturn, 1) := by decide +kernel
set_option maxRecDepth 100000 in
theorem q397 : xMc 397 = prog_14_method_73_code := rfl
theorem m397 : xMl 397 = 3 ∧ xMret 397 = none ∧ xMh 397 = [] := by decide +kernel
theorem e397 {X : xX} {d : Nat} {w : xH} {Q : xO → xH → Prop} (a : Nat) (x0 : Int32) (x1 : Nat) : Cw X d 397 [.ref a, .int x0, .retAddr x1] w Q = Wx X d 397 0 [some (.ref a), some (.int x0), some (.retAddr x1)] [] w Q := by
  unfold Cw
  rw [m397.1]
  rfl
theorem d397_0 : decode prog_14_method_73_code 0 = .ok (.aload_n 0, 1) := by decide +kernel
theorem d397_1 : decode prog_14_method_73_code 1 = .ok (.aload_n 2, 1) := by decide +kernel
theorem d397_2 : decode prog_14_method_73_code 2 = .ok (.invokevirtual 397, 3) := by decide +kernel
theorem k397_397_1 : xCa (xMo 397) 397 1 = some (5, 398, 1) := by decide +kernel
theorem n397_397 : xcn (xMo 397) 397 = some 1 := by decide +kernel
theorem d397_5 : decode prog_14_method_73_code 5 = .ok (.aload_n 2, 1) := by decide +kernel
theorem d397_6 : decode prog_14_method_73_code 6 = .ok (.aload_n 0, 1) := by decide +kernel
theorem d397_7 : decode prog_14_method_73_code 7 = .ok (.getfield 15, 3) := by decide +kernel
theorem f397_15 : xFd (xMo 397) 15 = some (1, 0) := by decide +kernel
theorem d397_10 : decode prog_14_method_73_code 10 = .ok (.iload_n 1, 1) := by decide +kernel
theorem d397_11 : decode prog_14_method_73_code 11 = .ok (.aload_n 0, 1) := by decide +kernel
theorem d397_12 : decode prog_14_method_73_code 12 = .ok (.getfield 22, 3) := by decide +kernel
theorem f397_22 : xFd (xMo 397) 22 = some (1, 1) := by decide +kernel
theorem d397_15 : decode prog_14_method_73_code 15 = .ok (.invokevirtual 399, 3) := by decide +kernel
theorem k397_399_0 : xCa (xMo 397) 399 0 = some (1, 404, 3) := by decide +kernel
theorem n397_399 : xcn (xMo 397) 399 = some 3 := by decide +kernel
theorem d397_18 : decode prog_14_method_73_code 18 = .ok (.return_, 1) := by decide +kernel
set_option maxRecDepth 100000 in
theorem q398 : xMc 398 = prog_14_method_71_code := rfl
theorem m398 : xMl 398 = 2 ∧ xMret 398 = none ∧ xMh 398 = [] := by decide +kernel
theorem e398 {X : xX} {d : Nat} {w : xH} {Q : xO → xH → Prop} (a : Nat) (x0 : Nat) : Cw X d 398 [.ref a, .retAddr x0] w Q = Wx X d 398 0 [some (.ref a), some (.retAddr x0)] [] w Q := by
  unfold Cw
  rw [m398.1]
  rfl
theorem d398_0 : decode prog_14_method_71_code 0 = .ok (.getstatic 18, 3) := by decide +kernel
theorem d398_3 : decode prog_14_method_71_code 3 = .ok (.ifCond .eq 18, 3) := by decide +kernel
theorem d398_6 : decode prog_14_method_71_code 6 = .ok (.aload_n 0, 1) := by decide +kernel
theorem d398_7 : decode prog_14_method_71_code 7 = .ok (.getfield 22, 3) := by decide +kernel
theorem f398_22 : xFd (xMo 398) 22 = some (1, 1) := by decide +kernel
theorem d398_10 : decode prog_14_method_71_code 10 = .ok (.aload_n 1, 1) := by decide +kernel
theorem d398_11 : decode prog_14_method_71_code 11 = .ok (.invokevirtual 40, 3) := by decide +kernel
theorem k398_40_0 : xCa (xMo 398) 40 0 = some (1, 401, 0) := by decide +kernel
theorem n398_40 : xcn (xMo 398) 40 = some 0 := by decide +kernel
theorem d398_14 : decode prog_14_method_71_code 14 = .ok (.if_icmp .eq 7, 3) := by decide +kernel
theorem d398_17 : decode prog_14_method_71_code 17 = .ok (.aload_n 0, 1) := by decide +kernel
theorem d398_18 : decode prog_14_method_71_code 18 = .ok (.invokevirtual 195, 3) := by decide +kernel
theorem d398_21 : decode prog_14_method_71_code 21 = .ok (.return_, 1) := by decide +kernel
set_option maxRecDepth 100000 in
theorem q404 : xMc 404 = prog_23_method_147_code := rfl
theorem m404 : xMl 404 = 4 ∧ xMret 404 = none ∧ xMh 404 = [] := by decide +kernel
theorem e404 {X : xX} {d : Nat} {w : xH} {Q : xO → xH → Prop} (a : Nat) (x0 : Nat) (x1 : Int32) (x2 : Int32) : Cw X d 404 [.ref a, .ref x0, .int x1, .int x2] w Q = Wx X d 404 0 [some (.ref a), some (.ref x0), some (.int x1), some (.int x2)] [] w Q := by
  unfold Cw
  rw [m404.1]
  rfl
theorem d404_0 : decode prog_23_method_147_code 0 = .ok (.aload_n 0, 1) := by decide +kernel
theorem d404_1 : decode prog_23_method_147_code 1 = .ok (.invokevirtual 335, 3) := by decide +kernel
theorem k404_335_0 : xCa (xMo 404) 335 0 = some (1, 401, 0) := by decide +kernel
theorem n404_335 : xcn (xMo 404) 335 = some 0 := by decide +kernel
theorem d404_4 : decode prog_23_method_147_code 4 = .ok (.iload_n 3, 1) := by decide +kernel
theorem d404_5 : decode prog_23_method_147_code 5 = .ok (.if_icmp .ne 23, 3) := by decide +kernel
theorem d404_8 : decode prog_23_method_147_code 8 = .ok (.aload_n 0, 1) := by decide +kernel
theorem d404_9 : decode prog_23_method_147_code 9 = .ok (.getfield 9, 3) := by decide +kernel
theorem f404_9 : xFd (xMo 404) 9 = some (0, 0) := by decide +kernel
theorem d404_12 : decode prog_23_method_147_code 12 = .ok (.iconst 0, 1) := by decide +kernel
theorem d404_13 : decode prog_23_method_147_code 13 = .ok (.aload_n 1, 1) := by decide +kernel
theorem d404_14 : decode prog_23_method_147_code 14 = .ok (.iload_n 2, 1) := by decide +kernel
theorem d404_15 : decode prog_23_method_147_code 15 = .ok (.iload_n 3, 1) := by decide +kernel
theorem d404_16 : decode prog_23_method_147_code 16 = .ok (.ishl, 1) := by decide +kernel
theorem d404_17 : decode prog_23_method_147_code 17 = .ok (.aload_n 0, 1) := by decide +kernel
theorem d404_18 : decode prog_23_method_147_code 18 = .ok (.getfield 9, 3) := by decide +kernel
theorem d404_21 : decode prog_23_method_147_code 21 = .ok (.arraylength, 1) := by decide +kernel
theorem d404_22 : decode prog_23_method_147_code 22 = .ok (.invokestatic 212, 3) := by decide +kernel
theorem d404_25 : decode prog_23_method_147_code 25 = .ok (.goto 18, 3) := by decide +kernel
theorem d404_28 : decode prog_23_method_147_code 28 = .ok (.aload_n 0, 1) := by decide +kernel
theorem d404_29 : decode prog_23_method_147_code 29 = .ok (.getfield 9, 3) := by decide +kernel
theorem d404_32 : decode prog_23_method_147_code 32 = .ok (.iconst 0, 1) := by decide +kernel
theorem d404_33 : decode prog_23_method_147_code 33 = .ok (.aload_n 1, 1) := by decide +kernel
theorem d404_34 : decode prog_23_method_147_code 34 = .ok (.iload_n 2, 1) := by decide +kernel
theorem d404_35 : decode prog_23_method_147_code 35 = .ok (.aload_n 0, 1) := by decide +kernel
theorem d404_36 : decode prog_23_method_147_code 36 = .ok (.getfield 9, 3) := by decide +kernel
theorem d404_39 : decode prog_23_method_147_code 39 = .ok (.arraylength, 1) := by decide +kernel
theorem d404_40 : decode prog_23_method_147_code 40 = .ok (.invokestatic 106, 3) := by decide +kernel
theorem d404_43 : decode prog_23_method_147_code 43 = .ok (.return_, 1) := by decide +kernel
set_option maxRecDepth 100000 in
theorem q405 : xMc 405 = prog_25_method_3_code := rfl
theorem m405 : xMl 405 = 1 ∧ xMret 405 = (some FieldType.boolean) ∧ xMh 405 = [] := by decide +kernel
theorem e405 {X : xX} {d : Nat} {w : xH} {Q : xO → xH → Prop} (x0 : Int32) : Cw X d 405 [.int x0] w Q = Wx X d 405 0 [some (.int x0)] [] w Q := by
  unfold Cw
  rw [m405.1]
  rfl
theorem d405_0 : decode prog_25_method_3_code 0 = .ok (.iload_n 0, 1) := by decide +kernel
theorem d405_1 : decode prog_25_method_3_code 1 = .ok (.sipush 255, 3) := by decide +kernel
theorem d405_4 : decode prog_25_method_3_code 4 = .ok (.if_icmp .gt 7, 3) := by decide +kernel
theorem d405_7 : decode prog_25_method_3_code 7 = .ok (.iconst 1, 1) := by decide +kernel
theorem d405_8 : decode prog_25_method_3_code 8 = .ok (.goto 4, 3) := by decide +kernel
theorem d405_11 : decode prog_25_method_3_code 11 = .ok (.iconst 0, 1) := by decide +kernel
theorem d405_12 : decode prog_25_method_3_code 12 = .ok (.ireturn, 1) := by decide +kernel
set_option maxRecDepth 100000 in
theorem q407 : xMc 407 = prog_29_method_121_code := rfl
theorem m407 : xMl 407 = 3 ∧ xMret 407 = (some (FieldType.array FieldType.byte)) ∧ xMh 407 = [] := by decide +kernel
theorem e407 {X : xX} {d : Nat} {w : xH} {Q : xO → xH → Prop} (x0 : Nat) (x1 : Int32) : Cw X d 407 [.ref x0, .int x1] w Q = Wx X d 407 0 [some (.ref x0), some (.int x1), none] [] w Q := by
  unfold Cw
  rw [m407.1]
  rfl
theorem d407_0 : decode prog_29_method_121_code 0 = .ok (.iload_n 1, 1) := by decide +kernel
theorem d407_1 : decode prog_29_method_121_code 1 = .ok (.aload_n 0, 1) := by decide +kernel
theorem d407_2 : decode prog_29_method_121_code 2 = .ok (.arraylength, 1) := by decide +kernel
theorem d407_3 : decode prog_29_method_121_code 3 = .ok (.if_icmp .ne 11, 3) := by decide +kernel
theorem d407_6 : decode prog_29_method_121_code 6 = .ok (.aload_n 0, 1) := by decide +kernel
theorem d407_7 : decode prog_29_method_121_code 7 = .ok (.invokevirtual 310, 3) := by decide +kernel
theorem d407_10 : decode prog_29_method_121_code 10 = .ok (.checkcast 311, 3) := by decide +kernel
theorem d407_13 : decode prog_29_method_121_code 13 = .ok (.areturn, 1) := by decide +kernel
theorem d407_14 : decode prog_29_method_121_code 14 = .ok (.iload_n 1, 1) := by decide +kernel
theorem d407_15 : decode prog_29_method_121_code 15 = .ok (.newarray .byte, 2) := by decide +kernel
theorem d407_17 : decode prog_29_method_121_code 17 = .ok (.astore_n 2, 1) := by decide +kernel
theorem d407_18 : decode prog_29_method_121_code 18 = .ok (.aload_n 0, 1) := by decide +kernel
theorem d407_19 : decode prog_29_method_121_code 19 = .ok (.iconst 0, 1) := by decide +kernel
theorem d407_20 : decode prog_29_method_121_code 20 = .ok (.aload_n 2, 1) := by decide +kernel
theorem d407_21 : decode prog_29_method_121_code 21 = .ok (.iconst 0, 1) := by decide +kernel
theorem d407_22 : decode prog_29_method_121_code 22 = .ok (.aload_n 0, 1) := by decide +kernel
theorem d407_23 : decode prog_29_method_121_code 23 = .ok (.arraylength, 1) := by decide +kernel
theorem d407_24 : decode prog_29_method_121_code 24 = .ok (.iload_n 1, 1) := by decide +kernel
theorem d407_25 : decode prog_29_method_121_code 25 = .ok (.invokestatic 304, 3) := by decide +kernel
theorem k407_304_99 : xCa (xMo 407) 304 99 = some (0, 409, 2) := by decide +kernel
theorem d407_28 : decode prog_29_method_121_code 28 = .ok (.invokestatic 150, 3) := by decide +kernel
theorem d407_31 : decode prog_29_method_121_code 31 = .ok (.aload_n 2, 1) := by decide +kernel
theorem d407_32 : decode prog_29_method_121_code 32 = .ok (.areturn, 1) := by decide +kernel
set_option maxRecDepth 100000 in
theorem q408 : xMc 408 = prog_30_method_27_code := rfl
theorem m408 : xMl 408 = 4 ∧ xMret 408 = (some FieldType.int) ∧ xMh 408 = [] := by decide +kernel
theorem e408 {X : xX} {d : Nat} {w : xH} {Q : xO → xH → Prop} (x0 : Int32) (x1 : Int32) (x2 : Int32) : Cw X d 408 [.int x0, .int x1, .int x2] w Q = Wx X d 408 0 [some (.int x0), some (.int x1), some (.int x2), none] [] w Q := by
  unfold Cw
  rw [m408.1]
  rfl
theorem d408_0 : decode prog_30_method_27_code 0 = .ok (.iload_n 0, 1) := by decide +kernel
theorem d408_1 : decode prog_30_method_27_code 1 = .ok (.iload_n 1, 1) := by decide +kernel
theorem d408_2 : decode prog_30_method_27_code 2 = .ok (.iload_n 2, 1) := by decide +kernel
theorem d408_3 : decode prog_30_method_27_code 3 = .ok (.invokestatic 194, 3) := by decide +kernel
theorem k408_194_99 : xCa (xMo 408) 194 99 = some (0, 410, 2) := by decide +kernel
theorem d408_6 : decode prog_30_method_27_code 6 = .ok (.iadd, 1) := by decide +kernel
theorem d408_7 : decode prog_30_method_27_code 7 = .ok (.istore_n 3, 1) := by decide +kernel
theorem d408_8 : decode prog_30_method_27_code 8 = .ok (.iconst 0, 1) := by decide +kernel
theorem d408_9 : decode prog_30_method_27_code 9 = .ok (.iload_n 3, 1) := by decide +kernel
theorem d408_10 : decode prog_30_method_27_code 10 = .ok (.if_icmp .ge 11, 3) := by decide +kernel
theorem d408_13 : decode prog_30_method_27_code 13 = .ok (.iload_n 3, 1) := by decide +kernel
theorem d408_14 : decode prog_30_method_27_code 14 = .ok (.ldc 200, 2) := by decide +kernel
theorem d408_16 : decode prog_30_method_27_code 16 = .ok (.if_icmp .gt 5, 3) := by decide +kernel
theorem d408_19 : decode prog_30_method_27_code 19 = .ok (.iload_n 3, 1) := by decide +kernel
theorem d408_20 : decode prog_30_method_27_code 20 = .ok (.ireturn, 1) := by decide +kernel
theorem d408_21 : decode prog_30_method_27_code 21 = .ok (.iload_n 0, 1) := by decide +kernel
theorem d408_22 : decode prog_30_method_27_code 22 = .ok (.iload_n 1, 1) := by decide +kernel
theorem d408_23 : decode prog_30_method_27_code 23 = .ok (.invokestatic 201, 3) := by decide +kernel
theorem d408_26 : decode prog_30_method_27_code 26 = .ok (.ireturn, 1) := by decide +kernel
set_option maxRecDepth 100000 in
theorem q414 : xMc 414 = prog_19_method_13_code := rfl
theorem m414 : xMl 414 = 4 ∧ xMret 414 = (some FieldType.int) ∧ xMh 414 = [] := by decide +kernel
theorem e414 {X : xX} {d : Nat} {w : xH} {Q : xO → xH → Prop} (x0 : Int32) : Cw X d 414 [.int x0] w Q = Wx X d 414 0 [some (.int x0), none, none, none] [] w Q := by
  unfold Cw
  rw [m414.1]
  rfl
theorem d414_0 : decode prog_19_method_13_code 0 = .ok (.iconst 1, 1) := by decide +kernel
theorem d414_1 : decode prog_19_method_13_code 1 = .ok (.istore_n 1, 1) := by decide +kernel
theorem d414_2 : decode prog_19_method_13_code 2 = .ok (.iload_n 0, 1) := by decide +kernel
theorem d414_3 : decode prog_19_method_13_code 3 = .ok (.ifCond .lt 8, 3) := by decide +kernel
theorem d414_6 : decode prog_19_method_13_code 6 = .ok (.iconst 0, 1) := by decide +kernel
theorem d414_7 : decode prog_19_method_13_code 7 = .ok (.istore_n 1, 1) := by decide +kernel
theorem d414_8 : decode prog_19_method_13_code 8 = .ok (.iload_n 0, 1) := by decide +kernel
theorem d414_9 : decode prog_19_method_13_code 9 = .ok (.ineg, 1) := by decide +kernel
theorem d414_10 : decode prog_19_method_13_code 10 = .ok (.istore_n 0, 1) := by decide +kernel
theorem d414_11 : decode prog_19_method_13_code 11 = .ok (.bipush (-10), 2) := by decide +kernel
theorem d414_13 : decode prog_19_method_13_code 13 = .ok (.istore_n 2, 1) := by decide +kernel
theorem d414_14 : decode prog_19_method_13_code 14 = .ok (.iconst 1, 1) := by decide +kernel
theorem d414_15 : decode prog_19_method_13_code 15 = .ok (.istore_n 3, 1) := by decide +kernel
theorem d414_16 : decode prog_19_method_13_code 16 = .ok (.iload_n 3, 1) := by decide +kernel
theorem d414_17 : decode prog_19_method_13_code 17 = .ok (.bipush 10, 2) := by decide +kernel
theorem d414_19 : decode prog_19_method_13_code 19 = .ok (.if_icmp .ge 23, 3) := by decide +kernel
theorem d414_22 : decode prog_19_method_13_code 22 = .ok (.iload_n 0, 1) := by decide +kernel
theorem d414_23 : decode prog_19_method_13_code 23 = .ok (.iload_n 2, 1) := by decide +kernel
theorem d414_24 : decode prog_19_method_13_code 24 = .ok (.if_icmp .le 7, 3) := by decide +kernel
theorem d414_27 : decode prog_19_method_13_code 27 = .ok (.iload_n 3, 1) := by decide +kernel
theorem d414_28 : decode prog_19_method_13_code 28 = .ok (.iload_n 1, 1) := by decide +kernel
theorem d414_29 : decode prog_19_method_13_code 29 = .ok (.iadd, 1) := by decide +kernel
theorem d414_30 : decode prog_19_method_13_code 30 = .ok (.ireturn, 1) := by decide +kernel
theorem d414_31 : decode prog_19_method_13_code 31 = .ok (.bipush 10, 2) := by decide +kernel
theorem d414_33 : decode prog_19_method_13_code 33 = .ok (.iload_n 2, 1) := by decide +kernel
theorem d414_34 : decode prog_19_method_13_code 34 = .ok (.imul, 1) := by decide +kernel
theorem d414_35 : decode prog_19_method_13_code 35 = .ok (.istore_n 2, 1) := by decide +kernel
theorem d414_36 : decode prog_19_method_13_code 36 = .ok (.iinc 3 1, 3) := by decide +kernel
theorem d414_39 : decode prog_19_method_13_code 39 = .ok (.goto (-23), 3) := by decide +kernel
theorem d414_42 : decode prog_19_method_13_code 42 = .ok (.bipush 10, 2) := by decide +kernel
theorem d414_44 : decode prog_19_method_13_code 44 = .ok (.iload_n 1, 1) := by decide +kernel
theorem d414_45 : decode prog_19_method_13_code 45 = .ok (.iadd, 1) := by decide +kernel
theorem d414_46 : decode prog_19_method_13_code 46 = .ok (.ireturn, 1) := by decide +kernel
set_option maxRecDepth 100000 in
theorem q415 : xMc 415 = prog_19_method_12_code := rfl
theorem m415 : xMl 415 = 7 ∧ xMret 415 = (some FieldType.int) ∧ xMh 415 = [] := by decide +kernel
theorem e415 {X : xX} {d : Nat} {w : xH} {Q : xO → xH → Prop} (x0 : Int32) (x1 : Int32) (x2 : Nat) : Cw X d 415 [.int x0, .int x1, .ref x2] w Q = Wx X d 415 0 [some (.int x0), some (.int x1), some (.ref x2), none, none, none, none] [] w Q := by
  unfold Cw
  rw [m415.1]
  rfl
theorem d415_0 : decode prog_19_method_12_code 0 = .ok (.iload_n 1, 1) := by decide +kernel
theorem d415_1 : decode prog_19_method_12_code 1 = .ok (.istore 5, 2) := by decide +kernel
theorem d415_3 : decode prog_19_method_12_code 3 = .ok (.iload_n 0, 1) := by decide +kernel
theorem d415_4 : decode prog_19_method_12_code 4 = .ok (.ifCond .ge 7, 3) := by decide +kernel
theorem d415_7 : decode prog_19_method_12_code 7 = .ok (.iconst 1, 1) := by decide +kernel
theorem d415_8 : decode prog_19_method_12_code 8 = .ok (.goto 4, 3) := by decide +kernel
theorem d415_11 : decode prog_19_method_12_code 11 = .ok (.iconst 0, 1) := by decide +kernel
theorem d415_12 : decode prog_19_method_12_code 12 = .ok (.istore 6, 2) := by decide +kernel
theorem d415_14 : decode prog_19_method_12_code 14 = .ok (.iload 6, 2) := by decide +kernel
theorem d415_16 : decode prog_19_method_12_code 16 = .ok (.ifCond .ne 6, 3) := by decide +kernel
theorem d415_19 : decode prog_19_method_12_code 19 = .ok (.iload_n 0, 1) := by decide +kernel
theorem d415_20 : decode prog_19_method_12_code 20 = .ok (.ineg, 1) := by decide +kernel
theorem d415_21 : decode prog_19_method_12_code 21 = .ok (.istore_n 0, 1) := by decide +kernel
theorem d415_22 : decode prog_19_method_12_code 22 = .ok (.iload_n 0, 1) := by decide +kernel
theorem d415_23 : decode prog_19_method_12_code 23 = .ok (.bipush (-100), 2) := by decide +kernel
theorem d415_25 : decode prog_19_method_12_code 25 = .ok (.if_icmp .gt 47, 3) := by decide +kernel
theorem d415_28 : decode prog_19_method_12_code 28 = .ok (.iload_n 0, 1) := by decide +kernel
theorem d415_29 : decode prog_19_method_12_code 29 = .ok (.bipush 100, 2) := by decide +kernel
theorem d415_31 : decode prog_19_method_12_code 31 = .ok (.idiv, 1) := by decide +kernel
theorem d415_32 : decode prog_19_method_12_code 32 = .ok (.istore_n 3, 1) := by decide +kernel
theorem d415_33 : decode prog_19_method_12_code 33 = .ok (.iload_n 3, 1) := by decide +kernel
theorem d415_34 : decode prog_19_method_12_code 34 = .ok (.bipush 100, 2) := by decide +kernel
theorem d415_36 : decode prog_19_method_12_code 36 = .ok (.imul, 1) := by decide +kernel
theorem d415_37 : decode prog_19_method_12_code 37 = .ok (.iload_n 0, 1) := by decide +kernel
theorem d415_38 : decode prog_19_method_12_code 38 = .ok (.isub, 1) := by decide +kernel
theorem d415_39 : decode prog_19_method_12_code 39 = .ok (.istore 4, 2) := by decide +kernel
theorem d415_41 : decode prog_19_method_12_code 41 = .ok (.iload_n 3, 1) := by decide +kernel
theorem d415_42 : decode prog_19_method_12_code 42 = .ok (.istore_n 0, 1) := by decide +kernel
theorem d415_43 : decode prog_19_method_12_code 43 = .ok (.aload_n 2, 1) := by decide +kernel
theorem d415_44 : decode prog_19_method_12_code 44 = .ok (.iinc 5 (-1), 3) := by decide +kernel
theorem d415_47 : decode prog_19_method_12_code 47 = .ok (.iload 5, 2) := by decide +kernel
theorem d415_49 : decode prog_19_method_12_code 49 = .ok (.getstatic 83, 3) := by decide +kernel
theorem d415_52 : decode prog_19_method_12_code 52 = .ok (.iload 4, 2) := by decide +kernel
theorem d415_54 : decode prog_19_method_12_code 54 = .ok (.baload, 1) := by decide +kernel
theorem d415_55 : decode prog_19_method_12_code 55 = .ok (.bastore, 1) := by decide +kernel
theorem d415_56 : decode prog_19_method_12_code 56 = .ok (.aload_n 2, 1) := by decide +kernel
theorem d415_57 : decode prog_19_method_12_code 57 = .ok (.iinc 5 (-1), 3) := by decide +kernel
theorem d415_60 : decode prog_19_method_12_code 60 = .ok (.iload 5, 2) := by decide +kernel
theorem d415_62 : decode prog_19_method_12_code 62 = .ok (.getstatic 87, 3) := by decide +kernel
theorem d415_65 : decode prog_19_method_12_code 65 = .ok (.iload 4, 2) := by decide +kernel
theorem d415_67 : decode prog_19_method_12_code 67 = .ok (.baload, 1) := by decide +kernel
theorem d415_68 : decode prog_19_method_12_code 68 = .ok (.bastore, 1) := by decide +kernel
theorem d415_69 : decode prog_19_method_12_code 69 = .ok (.goto (-47), 3) := by decide +kernel
theorem d415_72 : decode prog_19_method_12_code 72 = .ok (.aload_n 2, 1) := by decide +kernel
theorem d415_73 : decode prog_19_method_12_code 73 = .ok (.iinc 5 (-1), 3) := by decide +kernel
theorem d415_76 : decode prog_19_method_12_code 76 = .ok (.iload 5, 2) := by decide +kernel
theorem d415_78 : decode prog_19_method_12_code 78 = .ok (.getstatic 83, 3) := by decide +kernel
theorem d415_81 : decode prog_19_method_12_code 81 = .ok (.iload_n 0, 1) := by decide +kernel
theorem d415_82 : decode prog_19_method_12_code 82 = .ok (.ineg, 1) := by decide +kernel
theorem d415_83 : decode prog_19_method_12_code 83 = .ok (.baload, 1) := by decide +kernel
theorem d415_84 : decode prog_19_method_12_code 84 = .ok (.bastore, 1) := by decide +kernel
theorem d415_85 : decode prog_19_method_12_code 85 = .ok (.iload_n 0, 1) := by decide +kernel
theorem d415_86 : decode prog_19_method_12_code 86 = .ok (.bipush (-9), 2) := by decide +kernel
theorem d415_88 : decode prog_19_method_12_code 88 = .ok (.if_icmp .ge 16, 3) := by decide +kernel
theorem d415_91 : decode prog_19_method_12_code 91 = .ok (.aload_n 2, 1) := by decide +kernel
theorem d415_92 : decode prog_19_method_12_code 92 = .ok (.iinc 5 (-1), 3) := by decide +kernel
theorem d415_95 : decode prog_19_method_12_code 95 = .ok (.iload 5, 2) := by decide +kernel
theorem d415_97 : decode prog_19_method_12_code 97 = .ok (.getstatic 87, 3) := by decide +kernel
theorem d415_100 : decode prog_19_method_12_code 100 = .ok (.iload_n 0, 1) := by decide +kernel
theorem d415_101 : decode prog_19_method_12_code 101 = .ok (.ineg, 1) := by decide +kernel
theorem d415_102 : decode prog_19_method_12_code 102 = .ok (.baload, 1) := by decide +kernel
theorem d415_103 : decode prog_19_method_12_code 103 = .ok (.bastore, 1) := by decide +kernel
theorem d415_104 : decode prog_19_method_12_code 104 = .ok (.iload 6, 2) := by decide +kernel
theorem d415_106 : decode prog_19_method_12_code 106 = .ok (.ifCond .eq 12, 3) := by decide +kernel
theorem d415_109 : decode prog_19_method_12_code 109 = .ok (.aload_n 2, 1) := by decide +kernel
theorem d415_110 : decode prog_19_method_12_code 110 = .ok (.iinc 5 (-1), 3) := by decide +kernel
theorem d415_113 : decode prog_19_method_12_code 113 = .ok (.iload 5, 2) := by decide +kernel
theorem d415_115 : decode prog_19_method_12_code 115 = .ok (.bipush 45, 2) := by decide +kernel
theorem d415_117 : decode prog_19_method_12_code 117 = .ok (.bastore, 1) := by decide +kernel
theorem d415_118 : decode prog_19_method_12_code 118 = .ok (.iload 5, 2) := by decide +kernel
theorem d415_120 : decode prog_19_method_12_code 120 = .ok (.ireturn, 1) := by decide +kernel

variable {X : xX} {S S' S1 S2 : xLm} {g g' g1 g2 G : xGm} {d b m : Nat} {w : xH} {Q : xO → xH → Prop} {L : List Int} {cap cap' cap2 : Nat}
def SbI (S : xLm) (g : xGm) (b m : Nat) (L : List Int) (cap : Nat) : Prop := ∃ a : Nat, S.1 b = .inr (1, [some (.ref a), none, none, none]) ∧ S.1 a = .inl (3, cap) ∧ (a = b + 1 ∨ m ≤ a) ∧ a < S.2.1 ∧ (16 ≤ cap ∧ cap ≤ 1400) ∧ g b 1 = 0 ∧ g b 3 = L.length ∧ rg g a (-128) 127 ∧ TL (g a) 0 L ∧ (L.length : Int) ≤ cap
def SbX (S S' : xLm) (g g' : xGm) (b m cap cap' : Nat) : Prop := (∀ h, h < S.2.1 → ¬ h = b → S'.1 h = S.1 h) ∧ S.2.1 ≤ S'.2.1 ∧ (∀ h, ¬ h = b → ¬ h = b + 1 → h < m → g' h = g h) ∧ (∃ e : Nat, S'.2.2.1 = S.2.2.1 + e ∧ cap * 2 ^ e ≤ cap') ∧ S'.2.2.2 + 2 * cap ≤ S.2.2.2 + 2 * cap'
theorem SbX_refl : SbX S S g g b m cap cap := ⟨fun _ _ _ => rfl, Nat.le_refl _, fun _ _ _ _ => rfl, ⟨0, rfl, by simp⟩, Nat.le_refl _⟩
theorem SbX_trans (h1 : SbX S S1 g g1 b m cap cap') (h2 : SbX S1 S2 g1 g2 b m cap' cap2) : SbX S S2 g g2 b m cap cap2 := by
  obtain ⟨a1, a2, a3, ⟨e1, a4, a5⟩, a6⟩ := h1
  obtain ⟨b1, b2, b3, ⟨e2, b4, b5⟩, b6⟩ := h2
  refine ⟨fun h hh hb => (b1 h (by omega) hb).trans (a1 h hh hb), by omega, fun h x1 x2 x3 => (b3 h x1 x2 x3).trans (a3 h x1 x2 x3), ⟨e1 + e2, by omega, ?_⟩, by omega⟩
  rw [Nat.pow_add, ← Nat.mul_assoc]
  exact Nat.le_trans (Nat.mul_le_mul_right _ a5) b5
theorem xra_sb {a : Nat} : xra (FieldType.object "java/lang/StringBuilder") (Value.ref a) = true := by simp only [xra_ref]
theorem xra_asb {a : Nat} : xra (FieldType.object "java/lang/AbstractStringBuilder") (Value.ref a) = true := by simp only [xra_ref]
theorem xra_by {a : Nat} : xra (FieldType.array FieldType.byte) (Value.ref a) = true := by simp [xra]
theorem c_isLat (hI : SbI S g b m L cap) : ∀ Q, Cw X d 396 [.ref b] (hp S g) Q = Q (.inl (some (.int (iI 1)))) (hp S g) := fun Q => by
  obtain ⟨a, s0, s1, -, -, -, n1, -⟩ := hI
  rw [e396]
  simp (config := { decide := true }) only [w_gst0 (pc' := 3) q396 d396_0 rfl (by decide +kernel), w_if_eq (tg := 17) (pc' := 6) q396 d396_3 (by decide) rfl, w_aload_n0 (pc' := 7) q396 d396_6 rfl, w_getI (pc' := 10) q396 d396_7 rfl f396_22, w_if_ne (tg := 17) (pc' := 13) q396 d396_10 (by decide) rfl, w_iconst (pc' := 14) q396 d396_13 rfl, w_goto (tg := 18) q396 d396_14 (by decide), w_iconst (pc' := 18) q396 d396_17 rfl, w_zreturn q396 d396_18 m396.2.1, gs_off, gs_off0, gs_0off, gs_2, xN_0, xN_2, xN_3, xN_6, xN_7, xN_8, xN_9, xN_10, xN_11, xN_12, xN_13, xN_14, xN_15, xN_16, xN_17, xN_18, xN_19, xN_20, xN_21, xN_22, xN_23, xN_24, xN_25, xN_26, xN_27, xN_28, xN_29, xN_30, xN_31, xN_32, xN_33, xN_34, xN_35, xN_36, xN_37, xN_38, xN_39, xN_40, xN_41, xN_42, xN_43, xN_44, xN_45, xN_46, xN_47, xN_48, xN_49, xN_50, xN_51, xN_52, xN_53, xN_54, xN_55, ti_0, ti_1, ti_2, ti_3, ti_4, ti_5, ti_6, ti_7, ti_8, ti_9, ti_10, ti_16, ti_19, ti_20, ti_29, ti_30, ti_31, ti_32, ti_35, ti_36, ti_38, ti_39, ti_40, ti_41, ti_42, ti_43, ti_44, ti_45, ti_46, ti_47, ti_48, ti_49, ti_50, ti_51, ti_52, ti_53, ti_54, ti_55, ti_56, ti_57, ti_58, ti_59, ti_60, ti_61, ti_62, ti_63, ti_64, ti_65, ti_74, ti_77, ti_126, ti_200, ti_201, ti_202, ti_203, ti_204, ti_205, ti_210, ti_255, ti_256, ti_400, ti_512, ti_600, ti_601, ti_602, ti_1000, ti_1023, ti_1024, ti_2000, ti_10000, ti_12602, ti_999999, ti_m999999, ti_m1, ti_2000000, ti_3000000, xN_1, xN_4, xN_5, xN_60, xN_61, xN_64, xN_200, xN_800, xN_12000, xN_12602, eq_self, and_self, and_true, true_and, if_true, if_false, decide_true, Nat.reduceLeDiff, xc2_int, xc2_ref, xc2_ra, xc2_null, xc2_long, xc2_none, xisaT_ref, xisaT_ra, xisaT_null, xc1T_int, xc1T_ref, xc1T_ra, xc1T_null, xsum_nil, xsum_int, xsum_ref, xsum_ra, xsum_long, xsum_double, xsum_null, xfl_nil, xfl_int, xfl_ref, xfl_ra, xfl_null, xfl_long, xfl_double, List.length_cons, List.length_nil, s0, n1, xzb_1, not_true_eq_false, xfk, xfv, xak, xan, xcls, xsv', List.getElem?_cons_zero, List.getElem?_cons_succ, List.getD_cons_zero, List.getD_cons_succ, Option.getD_some, Option.isSome_some, if_true, if_pos, xcont, Option.toList_none, Option.toList_some, List.nil_append, List.cons_append]
theorem c_sbLen (hI : SbI S g b m L cap) : ∀ Q, Cw X (d + 1) 385 [.ref b] (hp S g) Q = Q (.inl (some (.int (iI L.length)))) (hp S g) := fun Q => by
  obtain ⟨a, s0, s1, -, -, -, n1, n3, -⟩ := hI
  have k : ∀ Q, Cw X d 392 [.ref b] (hp S g) Q = Q (.inl (some (.int (iI L.length)))) (hp S g) := fun Q => by
    rw [e392]
    simp (config := { decide := true }) only [w_aload_n0 (pc' := 1) q392 d392_0 rfl, w_getI (pc' := 4) q392 d392_1 rfl f392_79, w_ireturn q392 d392_4 m392.2.1, gs_off, gs_off0, gs_0off, gs_2, xN_0, xN_2, xN_3, xN_6, xN_7, xN_8, xN_9, xN_10, xN_11, xN_12, xN_13, xN_14, xN_15, xN_16, xN_17, xN_18, xN_19, xN_20, xN_21, xN_22, xN_23, xN_24, xN_25, xN_26, xN_27, xN_28, xN_29, xN_30, xN_31, xN_32, xN_33, xN_34, xN_35, xN_36, xN_37, xN_38, xN_39, xN_40, xN_41, xN_42, xN_43, xN_44, xN_45, xN_46, xN_47, xN_48, xN_49, xN_50, xN_51, xN_52, xN_53, xN_54, xN_55, ti_0, ti_1, ti_2, ti_3, ti_4, ti_5, ti_6, ti_7, ti_8, ti_9, ti_10, ti_16, ti_19, ti_20, ti_29, ti_30, ti_31, ti_32, ti_35, ti_36, ti_38, ti_39, ti_40, ti_41, ti_42, ti_43, ti_44, ti_45, ti_46, ti_47, ti_48, ti_49, ti_50, ti_51, ti_52, ti_53, ti_54, ti_55, ti_56, ti_57, ti_58, ti_59, ti_60, ti_61, ti_62, ti_63, ti_64, ti_65, ti_74, ti_77, ti_126, ti_200, ti_201, ti_202, ti_203, ti_204, ti_205, ti_210, ti_255, ti_256, ti_400, ti_512, ti_600, ti_601, ti_602, ti_1000, ti_1023, ti_1024, ti_2000, ti_10000, ti_12602, ti_999999, ti_m999999, ti_m1, ti_2000000, ti_3000000, xN_1, xN_4, xN_5, xN_60, xN_61, xN_64, xN_200, xN_800, xN_12000, xN_12602, eq_self, and_self, and_true, true_and, if_true, if_false, decide_true, Nat.reduceLeDiff, xc2_int, xc2_ref, xc2_ra, xc2_null, xc2_long, xc2_none, xisaT_ref, xisaT_ra, xisaT_null, xc1T_int, xc1T_ref, xc1T_ra, xc1T_null, xsum_nil, xsum_int, xsum_ref, xsum_ra, xsum_long, xsum_double, xsum_null, xfl_nil, xfl_int, xfl_ref, xfl_ra, xfl_null, xfl_long, xfl_double, List.length_cons, List.length_nil, s0, n3, xfk, xfv, xak, xan, xcls, xsv', List.getElem?_cons_zero, List.getElem?_cons_succ, List.getD_cons_zero, List.getD_cons_succ, Option.getD_some, Option.isSome_some, if_true, if_pos, xcont, Option.toList_none, Option.toList_some, List.nil_append, List.cons_append]
  rw [e385]
  simp (config := { decide := true }) only [w_aload_n0 (pc' := 1) q385 d385_0 rfl, w_invp0 (pc' := 4) q385 d385_1 rfl (by decide +kernel) k385_343_98 m392.1, w_ireturn q385 d385_4 m385.2.1, gs_off, gs_off0, gs_0off, gs_2, xN_0, xN_2, xN_3, xN_6, xN_7, xN_8, xN_9, xN_10, xN_11, xN_12, xN_13, xN_14, xN_15, xN_16, xN_17, xN_18, xN_19, xN_20, xN_21, xN_22, xN_23, xN_24, xN_25, xN_26, xN_27, xN_28, xN_29, xN_30, xN_31, xN_32, xN_33, xN_34, xN_35, xN_36, xN_37, xN_38, xN_39, xN_40, xN_41, xN_42, xN_43, xN_44, xN_45, xN_46, xN_47, xN_48, xN_49, xN_50, xN_51, xN_52, xN_53, xN_54, xN_55, ti_0, ti_1, ti_2, ti_3, ti_4, ti_5, ti_6, ti_7, ti_8, ti_9, ti_10, ti_16, ti_19, ti_20, ti_29, ti_30, ti_31, ti_32, ti_35, ti_36, ti_38, ti_39, ti_40, ti_41, ti_42, ti_43, ti_44, ti_45, ti_46, ti_47, ti_48, ti_49, ti_50, ti_51, ti_52, ti_53, ti_54, ti_55, ti_56, ti_57, ti_58, ti_59, ti_60, ti_61, ti_62, ti_63, ti_64, ti_65, ti_74, ti_77, ti_126, ti_200, ti_201, ti_202, ti_203, ti_204, ti_205, ti_210, ti_255, ti_256, ti_400, ti_512, ti_600, ti_601, ti_602, ti_1000, ti_1023, ti_1024, ti_2000, ti_10000, ti_12602, ti_999999, ti_m999999, ti_m1, ti_2000000, ti_3000000, xN_1, xN_4, xN_5, xN_60, xN_61, xN_64, xN_200, xN_800, xN_12000, xN_12602, eq_self, and_self, and_true, true_and, if_true, if_false, decide_true, Nat.reduceLeDiff, xc2_int, xc2_ref, xc2_ra, xc2_null, xc2_long, xc2_none, xisaT_ref, xisaT_ra, xisaT_null, xc1T_int, xc1T_ref, xc1T_ra, xc1T_null, xsum_nil, xsum_int, xsum_ref, xsum_ra, xsum_long, xsum_double, xsum_null, xfl_nil, xfl_int, xfl_ref, xfl_ra, xfl_null, xfl_long, xfl_double, List.length_cons, List.length_nil, s0, k, xfk, xfv, xak, xan, xcls, xsv', List.getElem?_cons_zero, List.getElem?_cons_succ, List.getD_cons_zero, List.getD_cons_succ, Option.getD_some, Option.isSome_some, if_true, if_pos, xcont, Option.toList_none, Option.toList_some, List.nil_append, List.cons_append]
theorem c_newLen {u v x : Int} (hu : 0 ≤ u ∧ u ≤ 10000) (hv : 0 ≤ v ∧ v ≤ x) (hx : 1 ≤ x ∧ x ≤ 10000) : ∀ Q, Cw X (d + 1) 408 [.int (iI u), .int (iI v), .int (iI x)] w Q = Q (.inl (some (.int (iI (u + x))))) w := fun Q => by
  have hm : (if ti v < ti x then x else v) = x := by
    rw [ti_eq (z := v) (by omega) (by omega), ti_eq (z := x) (by omega) (by omega)]
    split <;> omega
  have t1 : ti (u + x) = u + x := ti_eq (by omega) (by omega)
  have tM : ti 2147483639 = 2147483639 := by decide
  have n1 : ¬ u + x ≤ 0 := by omega
  have n2 : ¬ 2147483639 < u + x := by omega
  rw [e408]
  simp (config := { decide := true }) only [w_iload_n0 (pc' := 1) q408 d408_0 rfl, w_iload_n1 (pc' := 2) q408 d408_1 rfl, w_iload_n2 (pc' := 3) q408 d408_2 rfl, w_invs2 (pc' := 6) q408 d408_3 rfl (by decide +kernel) k408_194_99 m410.1, w_iadd (pc' := 7) q408 d408_6 rfl, w_istore_n3 (pc' := 8) q408 d408_7 rfl, w_iconst (pc' := 9) q408 d408_8 rfl, w_iload_n3 (pc' := 10) q408 d408_9 rfl, w_icmp_ge (tg := 21) (pc' := 13) q408 d408_10 (by decide) rfl, w_iload_n3 (pc' := 14) q408 d408_13 rfl, w_ldc (z := (2147483639)) (pc' := 16) q408 d408_14 rfl (by decide +kernel), w_icmp_gt (tg := 21) (pc' := 19) q408 d408_16 (by decide) rfl, w_iload_n3 (pc' := 20) q408 d408_19 rfl, w_ireturn q408 d408_20 m408.2.1, gs_off, gs_off0, gs_0off, gs_2, xN_0, xN_2, xN_3, xN_6, xN_7, xN_8, xN_9, xN_10, xN_11, xN_12, xN_13, xN_14, xN_15, xN_16, xN_17, xN_18, xN_19, xN_20, xN_21, xN_22, xN_23, xN_24, xN_25, xN_26, xN_27, xN_28, xN_29, xN_30, xN_31, xN_32, xN_33, xN_34, xN_35, xN_36, xN_37, xN_38, xN_39, xN_40, xN_41, xN_42, xN_43, xN_44, xN_45, xN_46, xN_47, xN_48, xN_49, xN_50, xN_51, xN_52, xN_53, xN_54, xN_55, ti_0, ti_1, ti_2, ti_3, ti_4, ti_5, ti_6, ti_7, ti_8, ti_9, ti_10, ti_16, ti_19, ti_20, ti_29, ti_30, ti_31, ti_32, ti_35, ti_36, ti_38, ti_39, ti_40, ti_41, ti_42, ti_43, ti_44, ti_45, ti_46, ti_47, ti_48, ti_49, ti_50, ti_51, ti_52, ti_53, ti_54, ti_55, ti_56, ti_57, ti_58, ti_59, ti_60, ti_61, ti_62, ti_63, ti_64, ti_65, ti_74, ti_77, ti_126, ti_200, ti_201, ti_202, ti_203, ti_204, ti_205, ti_210, ti_255, ti_256, ti_400, ti_512, ti_600, ti_601, ti_602, ti_1000, ti_1023, ti_1024, ti_2000, ti_10000, ti_12602, ti_999999, ti_m999999, ti_m1, ti_2000000, ti_3000000, xN_1, xN_4, xN_5, xN_60, xN_61, xN_64, xN_200, xN_800, xN_12000, xN_12602, eq_self, and_self, and_true, true_and, if_true, if_false, decide_true, Nat.reduceLeDiff, xc2_int, xc2_ref, xc2_ra, xc2_null, xc2_long, xc2_none, xisaT_ref, xisaT_ra, xisaT_null, xc1T_int, xc1T_ref, xc1T_ra, xc1T_null, xsum_nil, xsum_int, xsum_ref, xsum_ra, xsum_long, xsum_double, xsum_null, xfl_nil, xfl_int, xfl_ref, xfl_ra, xfl_null, xfl_long, xfl_double, List.length_cons, List.length_nil, c_max, hm, t1, tM, n1, n2, xfk, xfv, xak, xan, xcls, xsv', List.getElem?_cons_zero, List.getElem?_cons_succ, List.getD_cons_zero, List.getD_cons_succ, Option.getD_some, Option.isSome_some, if_true, if_pos, xcont, Option.toList_none, Option.toList_some, List.nil_append, List.cons_append]
theorem c_newCap {n : Int} (hI : SbI S g b m L cap) (hn : (cap : Int) ≤ n) (hn2 : n ≤ 2 * cap + 2) : ∀ Q, Cw X (d + 2) 395 [.ref b, .int (iI n)] (hp S g) Q = Q (.inl (some (.int (iI (2 * cap + 2 : Nat))))) (hp S g) := fun Q => by
  obtain ⟨a, s0, s1, -, -, hc, n1, -⟩ := hI
  have k := c_newLen (X := X) (d := d) (w := hp S g) (u := cap) (v := n - cap) (x := cap + 2) (by omega) (by omega) (by omega)
  have e : (cap : Int) + (cap + 2) = (2 * cap + 2 : Nat) := by omega
  rw [e] at k
  have t1 : ti ((2 * cap + 2 : Nat) : Int) = (2 * cap + 2 : Nat) := ti_eq (by omega) (by omega)
  have tM : ti 2147483647 = 2147483647 := by decide
  have n2 : ¬ ((2 * cap + 2 : Nat) : Int) = 2147483647 := by omega
  rw [e395]
  simp (config := { decide := true }) only [w_aload_n0 (pc' := 1) q395 d395_0 rfl, w_getV (pc' := 4) q395 d395_1 rfl f395_15, w_alen (k := 0) (pc' := 5) q395 d395_4 rfl, w_alenS (pc' := 5) q395 d395_4 rfl, w_alenB (pc' := 5) q395 d395_4 rfl, w_istore_n2 (pc' := 6) q395 d395_5 rfl, w_iload_n1 (pc' := 7) q395 d395_6 rfl, w_aload_n0 (pc' := 8) q395 d395_7 rfl, w_getI (pc' := 11) q395 d395_8 rfl f395_22, w_ishl0 (pc' := 12) q395 d395_11 rfl, w_istore_n3 (pc' := 13) q395 d395_12 rfl, w_iload_n3 (pc' := 14) q395 d395_13 rfl, w_iload_n2 (pc' := 15) q395 d395_14 rfl, w_isub (pc' := 16) q395 d395_15 rfl, w_istore4 (pc' := 18) q395 d395_16 rfl, w_iload_n2 (pc' := 19) q395 d395_18 rfl, w_iload4 (pc' := 21) q395 d395_19 rfl, w_iload_n2 (pc' := 22) q395 d395_21 rfl, w_iconst (pc' := 23) q395 d395_22 rfl, w_aload_n0 (pc' := 24) q395 d395_23 rfl, w_getI (pc' := 27) q395 d395_24 rfl f395_22, w_ishl0 (pc' := 28) q395 d395_27 rfl, w_iadd (pc' := 29) q395 d395_28 rfl, w_invs3 (pc' := 32) q395 d395_29 rfl (by decide +kernel) k395_114_99 m408.1, w_istore5 (pc' := 34) q395 d395_32 rfl, w_iload5 (pc' := 36) q395 d395_34 rfl, w_ldc (z := (2147483647)) (pc' := 38) q395 d395_36 rfl (by decide +kernel), w_icmp_ne (tg := 51) (pc' := 41) q395 d395_38 (by decide) rfl, w_iload5 (pc' := 53) q395 d395_51 rfl, w_aload_n0 (pc' := 54) q395 d395_53 rfl, w_getI (pc' := 57) q395 d395_54 rfl f395_22, w_ishr (pc' := 58) q395 d395_57 rfl, w_ireturn q395 d395_58 m395.2.1, gs_off, gs_off0, gs_0off, gs_2, xN_0, xN_2, xN_3, xN_6, xN_7, xN_8, xN_9, xN_10, xN_11, xN_12, xN_13, xN_14, xN_15, xN_16, xN_17, xN_18, xN_19, xN_20, xN_21, xN_22, xN_23, xN_24, xN_25, xN_26, xN_27, xN_28, xN_29, xN_30, xN_31, xN_32, xN_33, xN_34, xN_35, xN_36, xN_37, xN_38, xN_39, xN_40, xN_41, xN_42, xN_43, xN_44, xN_45, xN_46, xN_47, xN_48, xN_49, xN_50, xN_51, xN_52, xN_53, xN_54, xN_55, ti_0, ti_1, ti_2, ti_3, ti_4, ti_5, ti_6, ti_7, ti_8, ti_9, ti_10, ti_16, ti_19, ti_20, ti_29, ti_30, ti_31, ti_32, ti_35, ti_36, ti_38, ti_39, ti_40, ti_41, ti_42, ti_43, ti_44, ti_45, ti_46, ti_47, ti_48, ti_49, ti_50, ti_51, ti_52, ti_53, ti_54, ti_55, ti_56, ti_57, ti_58, ti_59, ti_60, ti_61, ti_62, ti_63, ti_64, ti_65, ti_74, ti_77, ti_126, ti_200, ti_201, ti_202, ti_203, ti_204, ti_205, ti_210, ti_255, ti_256, ti_400, ti_512, ti_600, ti_601, ti_602, ti_1000, ti_1023, ti_1024, ti_2000, ti_10000, ti_12602, ti_999999, ti_m999999, ti_m1, ti_2000000, ti_3000000, xN_1, xN_4, xN_5, xN_60, xN_61, xN_64, xN_200, xN_800, xN_12000, xN_12602, eq_self, and_self, and_true, true_and, if_true, if_false, decide_true, Nat.reduceLeDiff, xc2_int, xc2_ref, xc2_ra, xc2_null, xc2_long, xc2_none, xisaT_ref, xisaT_ra, xisaT_null, xc1T_int, xc1T_ref, xc1T_ra, xc1T_null, xsum_nil, xsum_int, xsum_ref, xsum_ra, xsum_long, xsum_double, xsum_null, xfl_nil, xfl_int, xfl_ref, xfl_ra, xfl_null, xfl_long, xfl_double, List.length_cons, List.length_nil, s0, s1, n1, k, t1, tM, n2, xshr_0, xfk, xfv, xak, xan, xcls, xsv', List.getElem?_cons_zero, List.getElem?_cons_succ, List.getD_cons_zero, List.getD_cons_succ, Option.getD_some, Option.isSome_some, if_true, if_pos, xcont, Option.toList_none, Option.toList_some, List.nil_append, List.cons_append]
theorem c_copyOf {a c2 : Nat} (ha : S.1 a = .inl (3, cap)) (hal : a < S.2.1) (hr : rg g a (-128) 127) (hc : cap < c2) (hn : c2 ≤ 20000) : ∀ Q, Cw X (d + 1) 407 [.ref a, .int (iI (c2 : Nat))] (hp S g) Q = Q (.inl (some (.ref S.2.1))) (hp (xSn S (.inl (3, c2)) c2) (gr (gz g S.2.1 0) S.2.1 (fun j => if 0 ≤ j ∧ j < cap then g a j else 0))) := fun Q => by
  have t1 : ti ((c2 : Nat) : Int) = (c2 : Nat) := ti_eq (by omega) (by omega)
  have t2 : ti ((cap : Nat) : Int) = (cap : Nat) := ti_eq (by omega) (by omega)
  have hne : ¬ ((c2 : Nat) : Int) = (cap : Nat) := by omega
  have h0 : (0 : Int) ≤ (c2 : Nat) := by omega
  have h2 : ((c2 : Nat) : Int) ≤ 20000 := by omega
  have hm : (if ((c2 : Nat) : Int) < (cap : Nat) then ((c2 : Nat) : Int) else (cap : Nat)) = (cap : Nat) := if_neg (by omega)
  have eN : ((c2 : Nat) : Int).toNat = c2 := by omega
  have ha' : (xSn S (.inl (3, c2)) c2).1 a = .inl (3, cap) := (xSn_off hal).trans ha
  have hN' : (xSn S (.inl (3, c2)) c2).1 S.2.1 = .inl (3, c2) := xSn_at
  obtain ⟨Sn, eS⟩ : ∃ Sn, Sn = xSn S (.inl (3, c2)) c2 := ⟨_, rfl⟩
  have eS' := eS.symm
  rw [eS'] at ha' hN' ⊢
  have ga : gz g S.2.1 0 a = g a := gz_row (by omega)
  have gN : ∀ j, gz g S.2.1 0 S.2.1 j = 0 := fun j => by unfold gz; rw [if_pos rfl]
  have kc := xcp_B (S := Sn) (g := gz g S.2.1 0) (st := []) (n := cap) (dp := 0) (sp := 0) ha' hN' (by omega) (by omega) (by omega) (by omega) (by omega) (by omega) hn (fun i _ _ => by rw [ga]; exact hr i)
  have eG : (fun j : Int => if 0 ≤ j ∧ j < 0 + (cap : Int) then gz g S.2.1 0 a (0 + (j - 0)) else gz g S.2.1 0 S.2.1 j) = fun j => if 0 ≤ j ∧ j < (cap : Int) then g a j else 0 := by
    funext j
    rw [ga, gN, Int.zero_add, Int.zero_add, Int.sub_zero]
  rw [eG] at kc
  rw [e407]
  simp (config := { decide := true }) only [w_iload_n1 (pc' := 1) q407 d407_0 rfl, w_aload_n0 (pc' := 2) q407 d407_1 rfl, w_alen (k := 0) (pc' := 3) q407 d407_2 rfl, w_alenS (pc' := 3) q407 d407_2 rfl, w_alenB (pc' := 3) q407 d407_2 rfl, w_icmp_ne (tg := 14) (pc' := 6) q407 d407_3 (by decide) rfl, w_iload_n1 (pc' := 15) q407 d407_14 rfl, w_newa (pc' := 17) q407 d407_15 rfl rfl, w_astore_n2 (pc' := 18) q407 d407_17 rfl, w_aload_n0 (pc' := 19) q407 d407_18 rfl, w_iconst (pc' := 20) q407 d407_19 rfl, w_aload_n2 (pc' := 21) q407 d407_20 rfl, w_iconst (pc' := 22) q407 d407_21 rfl, w_aload_n0 (pc' := 23) q407 d407_22 rfl, w_alen (k := 0) (pc' := 24) q407 d407_23 rfl, w_alenS (pc' := 24) q407 d407_23 rfl, w_alenB (pc' := 24) q407 d407_23 rfl, w_iload_n1 (pc' := 25) q407 d407_24 rfl, w_invs2 (pc' := 28) q407 d407_25 rfl (by decide +kernel) k407_304_99 m409.1, gs_off, gs_off0, gs_0off, gs_2, xN_0, xN_2, xN_3, xN_6, xN_7, xN_8, xN_9, xN_10, xN_11, xN_12, xN_13, xN_14, xN_15, xN_16, xN_17, xN_18, xN_19, xN_20, xN_21, xN_22, xN_23, xN_24, xN_25, xN_26, xN_27, xN_28, xN_29, xN_30, xN_31, xN_32, xN_33, xN_34, xN_35, xN_36, xN_37, xN_38, xN_39, xN_40, xN_41, xN_42, xN_43, xN_44, xN_45, xN_46, xN_47, xN_48, xN_49, xN_50, xN_51, xN_52, xN_53, xN_54, xN_55, ti_0, ti_1, ti_2, ti_3, ti_4, ti_5, ti_6, ti_7, ti_8, ti_9, ti_10, ti_16, ti_19, ti_20, ti_29, ti_30, ti_31, ti_32, ti_35, ti_36, ti_38, ti_39, ti_40, ti_41, ti_42, ti_43, ti_44, ti_45, ti_46, ti_47, ti_48, ti_49, ti_50, ti_51, ti_52, ti_53, ti_54, ti_55, ti_56, ti_57, ti_58, ti_59, ti_60, ti_61, ti_62, ti_63, ti_64, ti_65, ti_74, ti_77, ti_126, ti_200, ti_201, ti_202, ti_203, ti_204, ti_205, ti_210, ti_255, ti_256, ti_400, ti_512, ti_600, ti_601, ti_602, ti_1000, ti_1023, ti_1024, ti_2000, ti_10000, ti_12602, ti_999999, ti_m999999, ti_m1, ti_2000000, ti_3000000, xN_1, xN_4, xN_5, xN_60, xN_61, xN_64, xN_200, xN_800, xN_12000, xN_12602, eq_self, and_self, and_true, true_and, if_true, if_false, decide_true, Nat.reduceLeDiff, xc2_int, xc2_ref, xc2_ra, xc2_null, xc2_long, xc2_none, xisaT_ref, xisaT_ra, xisaT_null, xc1T_int, xc1T_ref, xc1T_ra, xc1T_null, xsum_nil, xsum_int, xsum_ref, xsum_ra, xsum_long, xsum_double, xsum_null, xfl_nil, xfl_int, xfl_ref, xfl_ra, xfl_null, xfl_long, xfl_double, List.length_cons, List.length_nil, ha, ha', t1, t2, hne, h0, h2, hm, eN, eS', c_min, xfk, xfv, xak, xan, xcls, xsv', List.getElem?_cons_zero, List.getElem?_cons_succ, List.getD_cons_zero, List.getD_cons_succ, Option.getD_some, Option.isSome_some, if_true, if_pos, xcont, Option.toList_none, Option.toList_some, List.nil_append, List.cons_append]
  rw [w_acp q407 d407_28 rfl (by decide +kernel) kc rfl]
  simp (config := { decide := true }) only [w_aload_n2 (pc' := 32) q407 d407_31 rfl, w_areturn q407 d407_32 m407.2.1, gs_off, gs_off0, gs_0off, gs_2, xN_0, xN_2, xN_3, xN_6, xN_7, xN_8, xN_9, xN_10, xN_11, xN_12, xN_13, xN_14, xN_15, xN_16, xN_17, xN_18, xN_19, xN_20, xN_21, xN_22, xN_23, xN_24, xN_25, xN_26, xN_27, xN_28, xN_29, xN_30, xN_31, xN_32, xN_33, xN_34, xN_35, xN_36, xN_37, xN_38, xN_39, xN_40, xN_41, xN_42, xN_43, xN_44, xN_45, xN_46, xN_47, xN_48, xN_49, xN_50, xN_51, xN_52, xN_53, xN_54, xN_55, ti_0, ti_1, ti_2, ti_3, ti_4, ti_5, ti_6, ti_7, ti_8, ti_9, ti_10, ti_16, ti_19, ti_20, ti_29, ti_30, ti_31, ti_32, ti_35, ti_36, ti_38, ti_39, ti_40, ti_41, ti_42, ti_43, ti_44, ti_45, ti_46, ti_47, ti_48, ti_49, ti_50, ti_51, ti_52, ti_53, ti_54, ti_55, ti_56, ti_57, ti_58, ti_59, ti_60, ti_61, ti_62, ti_63, ti_64, ti_65, ti_74, ti_77, ti_126, ti_200, ti_201, ti_202, ti_203, ti_204, ti_205, ti_210, ti_255, ti_256, ti_400, ti_512, ti_600, ti_601, ti_602, ti_1000, ti_1023, ti_1024, ti_2000, ti_10000, ti_12602, ti_999999, ti_m999999, ti_m1, ti_2000000, ti_3000000, xN_1, xN_4, xN_5, xN_60, xN_61, xN_64, xN_200, xN_800, xN_12000, xN_12602, eq_self, and_self, and_true, true_and, if_true, if_false, decide_true, Nat.reduceLeDiff, xc2_int, xc2_ref, xc2_ra, xc2_null, xc2_long, xc2_none, xisaT_ref, xisaT_ra, xisaT_null, xc1T_int, xc1T_ref, xc1T_ra, xc1T_null, xsum_nil, xsum_int, xsum_ref, xsum_ra, xsum_long, xsum_double, xsum_null, xfl_nil, xfl_int, xfl_ref, xfl_ra, xfl_null, xfl_long, xfl_double, List.length_cons, List.length_nil, xra_by, xfk, xfv, xak, xan, xcls, xsv', List.getElem?_cons_zero, List.getElem?_cons_succ, List.getD_cons_zero, List.getD_cons_succ, Option.getD_some, Option.isSome_some, if_true, if_pos, xcont, Option.toList_none, Option.toList_some, List.nil_append, List.cons_append]
theorem c_ensure {n : Int} (hm : m ≤ S.2.1) (hbm : b + 1 < m) (hI : SbI S g b m L cap) (hn : 0 ≤ n) (hn2 : n ≤ L.length + 8) (hL : (L.length : Int) ≤ 640) :
    ∃ S' g' cap', SbX S S' g g' b m cap cap' ∧ SbI S' g' b m L cap' ∧ m ≤ S'.2.1 ∧ n ≤ cap' ∧ ∀ Q, Cw X (d + 3) 394 [.ref b, .int (iI n)] (hp S g) Q = Q (.inl none) (hp S' g') := by
  have hI' := hI
  obtain ⟨a, s0, s1, hab, hal, hc, n1, n3, hr, hT, hl⟩ := hI
  have tc : ti ((cap : Nat) : Int) = (cap : Nat) := ti_eq (by omega) (by omega)
  have t1 : ti (n - (cap : Nat)) = n - (cap : Nat) := ti_eq (by omega) (by omega)
  by_cases h : n ≤ cap
  · have h1 : n - ((cap : Nat) : Int) ≤ 0 := by omega
    refine ⟨S, g, cap, SbX_refl, hI', hm, h, fun Q => ?_⟩
    rw [e394]
    simp (config := { decide := true }) only [w_aload_n0 (pc' := 1) q394 d394_0 rfl, w_getV (pc' := 4) q394 d394_1 rfl f394_15, w_alen (k := 0) (pc' := 5) q394 d394_4 rfl, w_alenS (pc' := 5) q394 d394_4 rfl, w_alenB (pc' := 5) q394 d394_4 rfl, w_aload_n0 (pc' := 6) q394 d394_5 rfl, w_getI (pc' := 9) q394 d394_6 rfl f394_22, w_ishr (pc' := 10) q394 d394_9 rfl, w_istore_n2 (pc' := 11) q394 d394_10 rfl, w_iload_n1 (pc' := 12) q394 d394_11 rfl, w_iload_n2 (pc' := 13) q394 d394_12 rfl, w_isub (pc' := 14) q394 d394_13 rfl, w_if_le (tg := 38) (pc' := 17) q394 d394_14 (by decide) rfl, w_return q394 d394_38 m394.2.1, gs_off, gs_off0, gs_0off, gs_2, xN_0, xN_2, xN_3, xN_6, xN_7, xN_8, xN_9, xN_10, xN_11, xN_12, xN_13, xN_14, xN_15, xN_16, xN_17, xN_18, xN_19, xN_20, xN_21, xN_22, xN_23, xN_24, xN_25, xN_26, xN_27, xN_28, xN_29, xN_30, xN_31, xN_32, xN_33, xN_34, xN_35, xN_36, xN_37, xN_38, xN_39, xN_40, xN_41, xN_42, xN_43, xN_44, xN_45, xN_46, xN_47, xN_48, xN_49, xN_50, xN_51, xN_52, xN_53, xN_54, xN_55, ti_0, ti_1, ti_2, ti_3, ti_4, ti_5, ti_6, ti_7, ti_8, ti_9, ti_10, ti_16, ti_19, ti_20, ti_29, ti_30, ti_31, ti_32, ti_35, ti_36, ti_38, ti_39, ti_40, ti_41, ti_42, ti_43, ti_44, ti_45, ti_46, ti_47, ti_48, ti_49, ti_50, ti_51, ti_52, ti_53, ti_54, ti_55, ti_56, ti_57, ti_58, ti_59, ti_60, ti_61, ti_62, ti_63, ti_64, ti_65, ti_74, ti_77, ti_126, ti_200, ti_201, ti_202, ti_203, ti_204, ti_205, ti_210, ti_255, ti_256, ti_400, ti_512, ti_600, ti_601, ti_602, ti_1000, ti_1023, ti_1024, ti_2000, ti_10000, ti_12602, ti_999999, ti_m999999, ti_m1, ti_2000000, ti_3000000, xN_1, xN_4, xN_5, xN_60, xN_61, xN_64, xN_200, xN_800, xN_12000, xN_12602, eq_self, and_self, and_true, true_and, if_true, if_false, decide_true, Nat.reduceLeDiff, xc2_int, xc2_ref, xc2_ra, xc2_null, xc2_long, xc2_none, xisaT_ref, xisaT_ra, xisaT_null, xc1T_int, xc1T_ref, xc1T_ra, xc1T_null, xsum_nil, xsum_int, xsum_ref, xsum_ra, xsum_long, xsum_double, xsum_null, xfl_nil, xfl_int, xfl_ref, xfl_ra, xfl_null, xfl_long, xfl_double, List.length_cons, List.length_nil, s0, s1, n1, xshr_0, tc, t1, h1, xfk, xfv, xak, xan, xcls, xsv', List.getElem?_cons_zero, List.getElem?_cons_succ, List.getD_cons_zero, List.getD_cons_succ, Option.getD_some, Option.isSome_some, if_true, if_pos, xcont, Option.toList_none, Option.toList_some, List.nil_append, List.cons_append]
  · have h1 : ¬ n - ((cap : Nat) : Int) ≤ 0 := by omega
    have k5 := c_newCap (X := X) (d := d) (n := n) hI' (by omega) (by omega)
    have k7 := c_copyOf (X := X) (S := S) (g := g) (d := d + 1) (c2 := 2 * cap + 2) s1 hal hr (by omega) (by omega)
    obtain ⟨Sn, eS⟩ : ∃ Sn, Sn = xSn S (.inl (3, 2 * cap + 2)) (2 * cap + 2) := ⟨_, rfl⟩
    obtain ⟨gn, eg⟩ : ∃ gn, gn = gr (gz g S.2.1 0) S.2.1 (fun j => if 0 ≤ j ∧ j < (cap : Int) then g a j else 0) := ⟨_, rfl⟩
    rw [← eS, ← eg] at k7
    have s0' : Sn.1 b = .inr (1, [some (.ref a), none, none, none]) := by rw [eS]; exact (xSn_off (by omega)).trans s0
    have rN : gn S.2.1 = fun j => if 0 ≤ j ∧ j < (cap : Int) then g a j else 0 := by rw [eg, gr_hit]
    have ro : ∀ h, ¬ h = S.2.1 → gn h = g h := fun h hh => by rw [eg, gr_row _ _ hh, gz_row hh]
    refine ⟨xS1 Sn b (.inr (1, [some (.ref S.2.1), none, none, none])), gn, 2 * cap + 2, ⟨fun h hh hb => ?_, ?_, fun h x1 x2 x3 => ro h (by omega), ⟨1, ?_, by omega⟩, ?_⟩, ⟨S.2.1, ?_, ?_, .inr hm, ?_, by omega, ?_, ?_, ?_, ?_, by omega⟩, ?_, by omega, fun Q => ?_⟩
    · show (if h = b then _ else Sn.1 h) = _
      rw [if_neg hb, eS]
      exact xSn_off hh
    · show S.2.1 ≤ Sn.2.1
      rw [eS]
      show S.2.1 ≤ S.2.1 + 1
      omega
    · show Sn.2.2.1 = _
      rw [eS]
      rfl
    · show Sn.2.2.2 + _ ≤ _
      rw [eS]
      show S.2.2.2 + (2 * cap + 2) + _ ≤ _
      omega
    · show (if b = b then _ else _) = _
      rw [if_pos rfl]
    · show (if S.2.1 = b then _ else Sn.1 S.2.1) = _
      rw [if_neg (by omega), eS]
      exact xSn_at
    · show S.2.1 < Sn.2.1
      rw [eS]
      show S.2.1 < S.2.1 + 1
      omega
    · rw [ro b (by omega)]; exact n1
    · rw [ro b (by omega)]; exact n3
    · intro i
      rw [rN]
      dsimp only
      split
      · exact hr i
      · decide
    · rw [rN]
      refine TL_congr L 0 (fun j j1 j2 => ?_) hT
      exact if_pos ⟨j1, by omega⟩
    · show m ≤ Sn.2.1
      rw [eS]
      show m ≤ S.2.1 + 1
      omega
    · rw [e394]
      simp (config := { decide := true }) only [w_aload_n0 (pc' := 1) q394 d394_0 rfl, w_getV (pc' := 4) q394 d394_1 rfl f394_15, w_alen (k := 0) (pc' := 5) q394 d394_4 rfl, w_alenS (pc' := 5) q394 d394_4 rfl, w_alenB (pc' := 5) q394 d394_4 rfl, w_aload_n0 (pc' := 6) q394 d394_5 rfl, w_getI (pc' := 9) q394 d394_6 rfl f394_22, w_ishr (pc' := 10) q394 d394_9 rfl, w_istore_n2 (pc' := 11) q394 d394_10 rfl, w_iload_n1 (pc' := 12) q394 d394_11 rfl, w_iload_n2 (pc' := 13) q394 d394_12 rfl, w_isub (pc' := 14) q394 d394_13 rfl, w_if_le (tg := 38) (pc' := 17) q394 d394_14 (by decide) rfl, w_aload_n0 (pc' := 18) q394 d394_17 rfl, w_aload_n0 (pc' := 19) q394 d394_18 rfl, w_getV (pc' := 22) q394 d394_19 rfl f394_15, w_aload_n0 (pc' := 23) q394 d394_22 rfl, w_iload_n1 (pc' := 24) q394 d394_23 rfl, w_invv1 (ci := 1) (pc' := 27) q394 d394_24 rfl n394_104 k394_104_1 m395.1, w_aload_n0 (pc' := 28) q394 d394_27 rfl, w_getI (pc' := 31) q394 d394_28 rfl f394_22, w_ishl0 (pc' := 32) q394 d394_31 rfl, w_invs2 (pc' := 35) q394 d394_32 rfl (by decide +kernel) k394_108_99 m407.1, w_putV (pc' := 38) q394 d394_35 rfl f394_15 rfl (by decide +kernel) (by decide +kernel), w_return q394 d394_38 m394.2.1, gs_off, gs_off0, gs_0off, gs_2, xN_0, xN_2, xN_3, xN_6, xN_7, xN_8, xN_9, xN_10, xN_11, xN_12, xN_13, xN_14, xN_15, xN_16, xN_17, xN_18, xN_19, xN_20, xN_21, xN_22, xN_23, xN_24, xN_25, xN_26, xN_27, xN_28, xN_29, xN_30, xN_31, xN_32, xN_33, xN_34, xN_35, xN_36, xN_37, xN_38, xN_39, xN_40, xN_41, xN_42, xN_43, xN_44, xN_45, xN_46, xN_47, xN_48, xN_49, xN_50, xN_51, xN_52, xN_53, xN_54, xN_55, ti_0, ti_1, ti_2, ti_3, ti_4, ti_5, ti_6, ti_7, ti_8, ti_9, ti_10, ti_16, ti_19, ti_20, ti_29, ti_30, ti_31, ti_32, ti_35, ti_36, ti_38, ti_39, ti_40, ti_41, ti_42, ti_43, ti_44, ti_45, ti_46, ti_47, ti_48, ti_49, ti_50, ti_51, ti_52, ti_53, ti_54, ti_55, ti_56, ti_57, ti_58, ti_59, ti_60, ti_61, ti_62, ti_63, ti_64, ti_65, ti_74, ti_77, ti_126, ti_200, ti_201, ti_202, ti_203, ti_204, ti_205, ti_210, ti_255, ti_256, ti_400, ti_512, ti_600, ti_601, ti_602, ti_1000, ti_1023, ti_1024, ti_2000, ti_10000, ti_12602, ti_999999, ti_m999999, ti_m1, ti_2000000, ti_3000000, xN_1, xN_4, xN_5, xN_60, xN_61, xN_64, xN_200, xN_800, xN_12000, xN_12602, eq_self, and_self, and_true, true_and, if_true, if_false, decide_true, Nat.reduceLeDiff, xc2_int, xc2_ref, xc2_ra, xc2_null, xc2_long, xc2_none, xisaT_ref, xisaT_ra, xisaT_null, xc1T_int, xc1T_ref, xc1T_ra, xc1T_null, xsum_nil, xsum_int, xsum_ref, xsum_ra, xsum_long, xsum_double, xsum_null, xfl_nil, xfl_int, xfl_ref, xfl_ra, xfl_null, xfl_long, xfl_double, List.length_cons, List.length_nil, s0, s0', s1, n1, xshr_0, tc, t1, h1, k5, k7, xfk, xfv, xak, xan, xcls, xsv', List.getElem?_cons_zero, List.getElem?_cons_succ, List.getD_cons_zero, List.getD_cons_succ, Option.getD_some, Option.isSome_some, if_true, if_pos, xcont, Option.toList_none, Option.toList_some, List.nil_append, List.cons_append]
      rfl
theorem xnb_id {x : Int} (h : 0 ≤ x ∧ x ≤ 127) : xnb x = x := by
  have e : ∀ n : Fin 128, xnb (n.val : Int) = n.val := by decide
  have := e ⟨x.toNat, by omega⟩
  have e2 : ((x.toNat : Nat) : Int) = x := by omega
  rw [e2] at this
  exact this
theorem c_app1 {x : Int} (hm : m ≤ S.2.1) (hbm : b + 1 < m) (hI : SbI S g b m L cap) (hx : 0 ≤ x ∧ x ≤ 127) (hL : (L.length : Int) ≤ 640) :
    ∃ S' g' cap', SbX S S' g g' b m cap cap' ∧ SbI S' g' b m (L ++ [x]) cap' ∧ m ≤ S'.2.1 ∧ ∀ Q, Cw X (d + 5) 382 [.ref b, .int (iI x)] (hp S g) Q = Q (.inl (some (.ref b))) (hp S' g') := by
  have n3 : g b 3 = L.length := by obtain ⟨a, -, -, -, -, -, -, n3, -⟩ := hI; exact n3
  have s00 : ∃ a, S.1 b = .inr (1, [some (.ref a), none, none, none]) := by obtain ⟨a, s0, -⟩ := hI; exact ⟨a, s0⟩
  obtain ⟨a0, s00⟩ := s00
  obtain ⟨S1, g1, cap1, X1, I1, m1, l1, k1⟩ := c_ensure (X := X) (d := d) (n := L.length + 1) hm hbm hI (by omega) (by omega) hL
  have kl := c_isLat (X := X) (d := d + 3) I1
  have I1' := I1
  obtain ⟨a, s0, s1, hab, hal, hc, e1, e3, hr, hT, hl⟩ := I1
  have tl : ti ((L.length : Nat) : Int) = (L.length : Nat) := ti_eq (by omega) (by omega)
  have l2 : ((L.length : Nat) : Int) < (cap1 : Nat) := by omega
  have l0 : (0 : Int) ≤ (L.length : Nat) := by omega
  have tx : ti x = x := ti_eq (by omega) (by omega)
  have t255 : ti 255 = 255 := by decide
  have nx : ¬ 255 < x := by omega
  have xb := xnb_id hx
  have k405 : ∀ Q, Cw X (d + 3) 405 [.int (iI x)] (hp S1 g1) Q = Q (.inl (some (.int (iI 1)))) (hp S1 g1) := fun Q => by
    rw [e405]
    simp (config := { decide := true }) only [w_iload_n0 (pc' := 1) q405 d405_0 rfl, w_sipush (z' := (255)) (pc' := 4) q405 d405_1 rfl (by decide), w_icmp_gt (tg := 11) (pc' := 7) q405 d405_4 (by decide) rfl, w_iconst (pc' := 8) q405 d405_7 rfl, w_goto (tg := 12) q405 d405_8 (by decide), w_iconst (pc' := 12) q405 d405_11 rfl, w_zreturn q405 d405_12 m405.2.1, gs_off, gs_off0, gs_0off, gs_2, xN_0, xN_2, xN_3, xN_6, xN_7, xN_8, xN_9, xN_10, xN_11, xN_12, xN_13, xN_14, xN_15, xN_16, xN_17, xN_18, xN_19, xN_20, xN_21, xN_22, xN_23, xN_24, xN_25, xN_26, xN_27, xN_28, xN_29, xN_30, xN_31, xN_32, xN_33, xN_34, xN_35, xN_36, xN_37, xN_38, xN_39, xN_40, xN_41, xN_42, xN_43, xN_44, xN_45, xN_46, xN_47, xN_48, xN_49, xN_50, xN_51, xN_52, xN_53, xN_54, xN_55, ti_0, ti_1, ti_2, ti_3, ti_4, ti_5, ti_6, ti_7, ti_8, ti_9, ti_10, ti_16, ti_19, ti_20, ti_29, ti_30, ti_31, ti_32, ti_35, ti_36, ti_38, ti_39, ti_40, ti_41, ti_42, ti_43, ti_44, ti_45, ti_46, ti_47, ti_48, ti_49, ti_50, ti_51, ti_52, ti_53, ti_54, ti_55, ti_56, ti_57, ti_58, ti_59, ti_60, ti_61, ti_62, ti_63, ti_64, ti_65, ti_74, ti_77, ti_126, ti_200, ti_201, ti_202, ti_203, ti_204, ti_205, ti_210, ti_255, ti_256, ti_400, ti_512, ti_600, ti_601, ti_602, ti_1000, ti_1023, ti_1024, ti_2000, ti_10000, ti_12602, ti_999999, ti_m999999, ti_m1, ti_2000000, ti_3000000, xN_1, xN_4, xN_5, xN_60, xN_61, xN_64, xN_200, xN_800, xN_12000, xN_12602, eq_self, and_self, and_true, true_and, if_true, if_false, decide_true, Nat.reduceLeDiff, xc2_int, xc2_ref, xc2_ra, xc2_null, xc2_long, xc2_none, xisaT_ref, xisaT_ra, xisaT_null, xc1T_int, xc1T_ref, xc1T_ra, xc1T_null, xsum_nil, xsum_int, xsum_ref, xsum_ra, xsum_long, xsum_double, xsum_null, xfl_nil, xfl_int, xfl_ref, xfl_ra, xfl_null, xfl_long, xfl_double, List.length_cons, List.length_nil, tx, t255, nx, xzb_1, xfk, xfv, xak, xan, xcls, xsv', List.getElem?_cons_zero, List.getElem?_cons_succ, List.getD_cons_zero, List.getD_cons_succ, Option.getD_some, Option.isSome_some, if_true, if_pos, xcont, Option.toList_none, Option.toList_some, List.nil_append, List.cons_append]
  have n10 : ¬ (1 : Int) = 0 := by decide
  have k389 : ∀ Q, Cw X (d + 4) 389 [.ref b, .int (iI x)] (hp S g) Q = Q (.inl (some (.ref b))) (hp S1 (gs (gs g1 b 3 (L.length + 1)) a L.length x)) := fun Q => by
    rw [e389]
    simp (config := { decide := true }) only [w_aload_n0 (pc' := 1) q389 d389_0 rfl, w_aload_n0 (pc' := 2) q389 d389_1 rfl, w_getI (pc' := 5) q389 d389_2 rfl f389_79, w_iconst (pc' := 6) q389 d389_5 rfl, w_iadd (pc' := 7) q389 d389_6 rfl, w_invv1 (ci := 1) (pc' := 10) q389 d389_7 rfl n389_100 k389_100_1 m394.1, w_aload_n0 (pc' := 11) q389 d389_10 rfl, w_invv0 (ci := 1) (pc' := 14) q389 d389_11 rfl n389_83 k389_83_1 m396.1, w_if_eq (tg := 45) (pc' := 17) q389 d389_14 (by decide) rfl, w_iload_n1 (pc' := 18) q389 d389_17 rfl, w_invs1 (pc' := 21) q389 d389_18 rfl (by decide +kernel) k389_191_99 m405.1, w_if_eq (tg := 45) (pc' := 24) q389 d389_21 (by decide) rfl, w_aload_n0 (pc' := 25) q389 d389_24 rfl, w_getV (pc' := 28) q389 d389_25 rfl f389_15, w_aload_n0 (pc' := 29) q389 d389_28 rfl, w_dup (pc' := 30) q389 d389_29 rfl, w_getI (pc' := 33) q389 d389_30 rfl f389_79, w_dup_x1 (pc' := 34) q389 d389_33 rfl, w_iconst (pc' := 35) q389 d389_34 rfl, w_iadd (pc' := 36) q389 d389_35 rfl, w_putI (pc' := 39) q389 d389_36 rfl f389_79 rfl (by decide +kernel), w_iload_n1 (pc' := 40) q389 d389_39 rfl, w_i2b (pc' := 41) q389 d389_40 rfl, w_zastore (pc' := 42) q389 d389_41 rfl, w_bastore (pc' := 42) q389 d389_41 rfl, w_goto (tg := 75) q389 d389_42 (by decide), w_aload_n0 (pc' := 76) q389 d389_75 rfl, w_areturn q389 d389_76 m389.2.1, gs_off, gs_off0, gs_0off, gs_2, xN_0, xN_2, xN_3, xN_6, xN_7, xN_8, xN_9, xN_10, xN_11, xN_12, xN_13, xN_14, xN_15, xN_16, xN_17, xN_18, xN_19, xN_20, xN_21, xN_22, xN_23, xN_24, xN_25, xN_26, xN_27, xN_28, xN_29, xN_30, xN_31, xN_32, xN_33, xN_34, xN_35, xN_36, xN_37, xN_38, xN_39, xN_40, xN_41, xN_42, xN_43, xN_44, xN_45, xN_46, xN_47, xN_48, xN_49, xN_50, xN_51, xN_52, xN_53, xN_54, xN_55, ti_0, ti_1, ti_2, ti_3, ti_4, ti_5, ti_6, ti_7, ti_8, ti_9, ti_10, ti_16, ti_19, ti_20, ti_29, ti_30, ti_31, ti_32, ti_35, ti_36, ti_38, ti_39, ti_40, ti_41, ti_42, ti_43, ti_44, ti_45, ti_46, ti_47, ti_48, ti_49, ti_50, ti_51, ti_52, ti_53, ti_54, ti_55, ti_56, ti_57, ti_58, ti_59, ti_60, ti_61, ti_62, ti_63, ti_64, ti_65, ti_74, ti_77, ti_126, ti_200, ti_201, ti_202, ti_203, ti_204, ti_205, ti_210, ti_255, ti_256, ti_400, ti_512, ti_600, ti_601, ti_602, ti_1000, ti_1023, ti_1024, ti_2000, ti_10000, ti_12602, ti_999999, ti_m999999, ti_m1, ti_2000000, ti_3000000, xN_1, xN_4, xN_5, xN_60, xN_61, xN_64, xN_200, xN_800, xN_12000, xN_12602, eq_self, and_self, and_true, true_and, if_true, if_false, decide_true, Nat.reduceLeDiff, xc2_int, xc2_ref, xc2_ra, xc2_null, xc2_long, xc2_none, xisaT_ref, xisaT_ra, xisaT_null, xc1T_int, xc1T_ref, xc1T_ra, xc1T_null, xsum_nil, xsum_int, xsum_ref, xsum_ra, xsum_long, xsum_double, xsum_null, xfl_nil, xfl_int, xfl_ref, xfl_ra, xfl_null, xfl_long, xfl_double, List.length_cons, List.length_nil, s00, n3, k1, kl, k405, s0, s1, e3, ti_1, n10, tl, l0, l2, xb, xra_asb, xfk, xfv, xak, xan, xcls, xsv', List.getElem?_cons_zero, List.getElem?_cons_succ, List.getD_cons_zero, List.getD_cons_succ, Option.getD_some, Option.isSome_some, if_true, if_pos, xcont, Option.toList_none, Option.toList_some, List.nil_append, List.cons_append]
  have ra : ¬ a = b := by
    intro e
    rcases hab with h | h
    · omega
    · omega
  have ra2 : ∀ h, ¬ h = b + 1 → h < m → ¬ h = a := fun h h1 h2 => by rcases hab with h' | h' <;> omega
  refine ⟨S1, gs (gs g1 b 3 (L.length + 1)) a L.length x, cap1, ?_, ⟨a, s0, s1, hab, hal, hc, ?_, ?_, ?_, ?_, ?_⟩, m1, fun Q => ?_⟩
  · obtain ⟨x1, x2, x3, x4, x5⟩ := X1
    exact ⟨x1, x2, fun h h1 h2 h3 => by rw [gs_row _ _ _ (ra2 h h2 h3), gs_row _ _ _ h1]; exact x3 h h1 h2 h3, x4, x5⟩
  · rw [gs_row _ _ _ (fun e => ra e.symm), gs_at, if_neg (by decide)]; exact e1
  · rw [gs_row _ _ _ (fun e => ra e.symm), gs_at, if_pos rfl, List.length_append]
    rfl
  · intro i
    rw [gs_at]
    split
    · omega
    · rw [gs_row _ _ _ ra]; exact hr i
  · have h := TL_snoc (n := L.length) (t := x) hT rfl
    refine TL_congr _ 0 (fun j j1 j2 => ?_) h
    rw [gs_at, gs_row _ _ _ ra]
  · rw [List.length_append]
    show ((L.length + 1 : Nat) : Int) ≤ _
    omega
  · rw [e382]
    simp (config := { decide := true }) only [w_aload_n0 (pc' := 1) q382 d382_0 rfl, w_iload_n1 (pc' := 2) q382 d382_1 rfl, w_invp1 (pc' := 5) q382 d382_2 rfl (by decide +kernel) k382_50_98 m389.1, w_pop (pc' := 6) q382 d382_5 rfl, w_aload_n0 (pc' := 7) q382 d382_6 rfl, w_areturn q382 d382_7 m382.2.1, gs_off, gs_off0, gs_0off, gs_2, xN_0, xN_2, xN_3, xN_6, xN_7, xN_8, xN_9, xN_10, xN_11, xN_12, xN_13, xN_14, xN_15, xN_16, xN_17, xN_18, xN_19, xN_20, xN_21, xN_22, xN_23, xN_24, xN_25, xN_26, xN_27, xN_28, xN_29, xN_30, xN_31, xN_32, xN_33, xN_34, xN_35, xN_36, xN_37, xN_38, xN_39, xN_40, xN_41, xN_42, xN_43, xN_44, xN_45, xN_46, xN_47, xN_48, xN_49, xN_50, xN_51, xN_52, xN_53, xN_54, xN_55, ti_0, ti_1, ti_2, ti_3, ti_4, ti_5, ti_6, ti_7, ti_8, ti_9, ti_10, ti_16, ti_19, ti_20, ti_29, ti_30, ti_31, ti_32, ti_35, ti_36, ti_38, ti_39, ti_40, ti_41, ti_42, ti_43, ti_44, ti_45, ti_46, ti_47, ti_48, ti_49, ti_50, ti_51, ti_52, ti_53, ti_54, ti_55, ti_56, ti_57, ti_58, ti_59, ti_60, ti_61, ti_62, ti_63, ti_64, ti_65, ti_74, ti_77, ti_126, ti_200, ti_201, ti_202, ti_203, ti_204, ti_205, ti_210, ti_255, ti_256, ti_400, ti_512, ti_600, ti_601, ti_602, ti_1000, ti_1023, ti_1024, ti_2000, ti_10000, ti_12602, ti_999999, ti_m999999, ti_m1, ti_2000000, ti_3000000, xN_1, xN_4, xN_5, xN_60, xN_61, xN_64, xN_200, xN_800, xN_12000, xN_12602, eq_self, and_self, and_true, true_and, if_true, if_false, decide_true, Nat.reduceLeDiff, xc2_int, xc2_ref, xc2_ra, xc2_null, xc2_long, xc2_none, xisaT_ref, xisaT_ra, xisaT_null, xc1T_int, xc1T_ref, xc1T_ra, xc1T_null, xsum_nil, xsum_int, xsum_ref, xsum_ra, xsum_long, xsum_double, xsum_null, xfl_nil, xfl_int, xfl_ref, xfl_ra, xfl_null, xfl_long, xfl_double, List.length_cons, List.length_nil, s00, k389, xra_sb, xfk, xfv, xak, xan, xcls, xsv', List.getElem?_cons_zero, List.getElem?_cons_succ, List.getD_cons_zero, List.getD_cons_succ, Option.getD_some, Option.isSome_some, if_true, if_pos, xcont, Option.toList_none, Option.toList_some, List.nil_append, List.cons_append]
end
