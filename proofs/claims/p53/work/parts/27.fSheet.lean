/-! facts of methods, written by wip/whole/mkfacts.py -/
section
set_option maxRecDepth 100000 in
theorem q0 : xMc 0 = prog_1_method_1_code := rfl
theorem m0 : xMl 0 = 1 ∧ xMret 0 = none ∧ xMh 0 = [] := by decide +kernel
theorem e0 {X : xX} {d : Nat} {w : xH} {Q : xO → xH → Prop} (a : Nat) : Cw X d 0 [.ref a] w Q = Wx X d 0 0 [some (.ref a)] [] w Q := by
  unfold Cw
  rw [m0.1]
  rfl
theorem d0_0 : decode prog_1_method_1_code 0 = .ok (.aload_n 0, 1) := by decide +kernel
theorem d0_1 : decode prog_1_method_1_code 1 = .ok (.invokespecial 3, 3) := by decide +kernel
theorem d0_4 : decode prog_1_method_1_code 4 = .ok (.aload_n 0, 1) := by decide +kernel
theorem d0_5 : decode prog_1_method_1_code 5 = .ok (.new 9, 3) := by decide +kernel
theorem d0_8 : decode prog_1_method_1_code 8 = .ok (.dup, 1) := by decide +kernel
theorem d0_9 : decode prog_1_method_1_code 9 = .ok (.invokespecial 11, 3) := by decide +kernel
theorem k0_11_98 : xCa (xMo 0) 11 98 = some (12, 121, 0) := by decide +kernel
theorem d0_12 : decode prog_1_method_1_code 12 = .ok (.putfield 12, 3) := by decide +kernel
theorem f0_12 : xFd (xMo 0) 12 = some (10, 0) := by decide +kernel
theorem d0_15 : decode prog_1_method_1_code 15 = .ok (.aload_n 0, 1) := by decide +kernel
theorem d0_16 : decode prog_1_method_1_code 16 = .ok (.new 16, 3) := by decide +kernel
theorem d0_19 : decode prog_1_method_1_code 19 = .ok (.dup, 1) := by decide +kernel
theorem d0_20 : decode prog_1_method_1_code 20 = .ok (.invokespecial 18, 3) := by decide +kernel
theorem k0_18_98 : xCa (xMo 0) 18 98 = some (12, 62, 0) := by decide +kernel
theorem d0_23 : decode prog_1_method_1_code 23 = .ok (.putfield 19, 3) := by decide +kernel
theorem f0_19 : xFd (xMo 0) 19 = some (10, 1) := by decide +kernel
theorem d0_26 : decode prog_1_method_1_code 26 = .ok (.aload_n 0, 1) := by decide +kernel
theorem d0_27 : decode prog_1_method_1_code 27 = .ok (.new 16, 3) := by decide +kernel
theorem d0_30 : decode prog_1_method_1_code 30 = .ok (.dup, 1) := by decide +kernel
theorem d0_31 : decode prog_1_method_1_code 31 = .ok (.invokespecial 18, 3) := by decide +kernel
theorem d0_34 : decode prog_1_method_1_code 34 = .ok (.putfield 23, 3) := by decide +kernel
theorem f0_23 : xFd (xMo 0) 23 = some (10, 2) := by decide +kernel
theorem d0_37 : decode prog_1_method_1_code 37 = .ok (.aload_n 0, 1) := by decide +kernel
theorem d0_38 : decode prog_1_method_1_code 38 = .ok (.new 26, 3) := by decide +kernel
theorem d0_41 : decode prog_1_method_1_code 41 = .ok (.dup, 1) := by decide +kernel
theorem d0_42 : decode prog_1_method_1_code 42 = .ok (.invokespecial 28, 3) := by decide +kernel
theorem k0_28_98 : xCa (xMo 0) 28 98 = some (12, 148, 0) := by decide +kernel
theorem d0_45 : decode prog_1_method_1_code 45 = .ok (.putfield 29, 3) := by decide +kernel
theorem f0_29 : xFd (xMo 0) 29 = some (10, 3) := by decide +kernel
theorem d0_48 : decode prog_1_method_1_code 48 = .ok (.aload_n 0, 1) := by decide +kernel
theorem d0_49 : decode prog_1_method_1_code 49 = .ok (.new 33, 3) := by decide +kernel
theorem d0_52 : decode prog_1_method_1_code 52 = .ok (.dup, 1) := by decide +kernel
theorem d0_53 : decode prog_1_method_1_code 53 = .ok (.invokespecial 35, 3) := by decide +kernel
theorem k0_35_98 : xCa (xMo 0) 35 98 = some (2, 89, 0) := by decide +kernel
theorem d0_56 : decode prog_1_method_1_code 56 = .ok (.putfield 36, 3) := by decide +kernel
theorem f0_36 : xFd (xMo 0) 36 = some (10, 5) := by decide +kernel
theorem d0_59 : decode prog_1_method_1_code 59 = .ok (.aload_n 0, 1) := by decide +kernel
theorem d0_60 : decode prog_1_method_1_code 60 = .ok (.new 40, 3) := by decide +kernel
theorem d0_63 : decode prog_1_method_1_code 63 = .ok (.dup, 1) := by decide +kernel
theorem d0_64 : decode prog_1_method_1_code 64 = .ok (.invokespecial 42, 3) := by decide +kernel
theorem k0_42_98 : xCa (xMo 0) 42 98 = some (2, 380, 0) := by decide +kernel
theorem d0_67 : decode prog_1_method_1_code 67 = .ok (.putfield 43, 3) := by decide +kernel
theorem f0_43 : xFd (xMo 0) 43 = some (10, 6) := by decide +kernel
theorem d0_70 : decode prog_1_method_1_code 70 = .ok (.return_, 1) := by decide +kernel
set_option maxRecDepth 100000 in
theorem q1 : xMc 1 = prog_1_method_3_code := rfl
theorem m1 : xMl 1 = 2 ∧ xMret 1 = (some FieldType.int) ∧ xMh 1 = [] := by decide +kernel
theorem e1 {X : xX} {d : Nat} {w : xH} {Q : xO → xH → Prop} (a : Nat) : Cw X d 1 [.ref a] w Q = Wx X d 1 0 [some (.ref a), none] [] w Q := by
  unfold Cw
  rw [m1.1]
  rfl
theorem d1_0 : decode prog_1_method_3_code 0 = .ok (.aload_n 0, 1) := by decide +kernel
theorem d1_1 : decode prog_1_method_3_code 1 = .ok (.getfield 12, 3) := by decide +kernel
theorem f1_12 : xFd (xMo 1) 12 = some (10, 0) := by decide +kernel
theorem d1_4 : decode prog_1_method_3_code 4 = .ok (.getfield 54, 3) := by decide +kernel
theorem f1_54 : xFd (xMo 1) 54 = some (8, 1) := by decide +kernel
theorem d1_7 : decode prog_1_method_3_code 7 = .ok (.istore_n 1, 1) := by decide +kernel
theorem d1_8 : decode prog_1_method_3_code 8 = .ok (.aload_n 0, 1) := by decide +kernel
theorem d1_9 : decode prog_1_method_3_code 9 = .ok (.getfield 12, 3) := by decide +kernel
theorem d1_12 : decode prog_1_method_3_code 12 = .ok (.iconst 0, 1) := by decide +kernel
theorem d1_13 : decode prog_1_method_3_code 13 = .ok (.putfield 54, 3) := by decide +kernel
theorem d1_16 : decode prog_1_method_3_code 16 = .ok (.iload_n 1, 1) := by decide +kernel
theorem d1_17 : decode prog_1_method_3_code 17 = .ok (.ireturn, 1) := by decide +kernel
set_option maxRecDepth 100000 in
theorem q2 : xMc 2 = prog_1_method_4_code := rfl
theorem m2 : xMl 2 = 1 ∧ xMret 2 = (some FieldType.int) ∧ xMh 2 = [] := by decide +kernel
theorem e2 {X : xX} {d : Nat} {w : xH} {Q : xO → xH → Prop} (a : Nat) : Cw X d 2 [.ref a] w Q = Wx X d 2 0 [some (.ref a)] [] w Q := by
  unfold Cw
  rw [m2.1]
  rfl
theorem d2_0 : decode prog_1_method_4_code 0 = .ok (.aload_n 0, 1) := by decide +kernel
theorem d2_1 : decode prog_1_method_4_code 1 = .ok (.getfield 12, 3) := by decide +kernel
theorem f2_12 : xFd (xMo 2) 12 = some (10, 0) := by decide +kernel
theorem d2_4 : decode prog_1_method_4_code 4 = .ok (.invokevirtual 67, 3) := by decide +kernel
theorem k2_67_8 : xCa (xMo 2) 67 8 = some (1, 122, 0) := by decide +kernel
theorem n2_67 : xcn (xMo 2) 67 = some 0 := by decide +kernel
theorem d2_7 : decode prog_1_method_4_code 7 = .ok (.ireturn, 1) := by decide +kernel
set_option maxRecDepth 100000 in
theorem q3 : xMc 3 = prog_1_method_5_code := rfl
theorem m3 : xMl 3 = 1 ∧ xMret 3 = (some FieldType.int) ∧ xMh 3 = [] := by decide +kernel
theorem e3 {X : xX} {d : Nat} {w : xH} {Q : xO → xH → Prop} (a : Nat) : Cw X d 3 [.ref a] w Q = Wx X d 3 0 [some (.ref a)] [] w Q := by
  unfold Cw
  rw [m3.1]
  rfl
theorem d3_0 : decode prog_1_method_5_code 0 = .ok (.aload_n 0, 1) := by decide +kernel
theorem d3_1 : decode prog_1_method_5_code 1 = .ok (.getfield 12, 3) := by decide +kernel
theorem f3_12 : xFd (xMo 3) 12 = some (10, 0) := by decide +kernel
theorem d3_4 : decode prog_1_method_5_code 4 = .ok (.invokevirtual 71, 3) := by decide +kernel
theorem k3_71_8 : xCa (xMo 3) 71 8 = some (1, 143, 0) := by decide +kernel
theorem n3_71 : xcn (xMo 3) 71 = some 0 := by decide +kernel
theorem d3_7 : decode prog_1_method_5_code 7 = .ok (.ireturn, 1) := by decide +kernel
set_option maxRecDepth 100000 in
theorem q4 : xMc 4 = prog_1_method_17_code := rfl
theorem m4 : xMl 4 = 1 ∧ xMret 4 = (some FieldType.int) ∧ xMh 4 = [] := by decide +kernel
theorem e4 {X : xX} {d : Nat} {w : xH} {Q : xO → xH → Prop} (a : Nat) : Cw X d 4 [.ref a] w Q = Wx X d 4 0 [some (.ref a)] [] w Q := by
  unfold Cw
  rw [m4.1]
  rfl
theorem d4_0 : decode prog_1_method_17_code 0 = .ok (.aload_n 0, 1) := by decide +kernel
theorem d4_1 : decode prog_1_method_17_code 1 = .ok (.getfield 29, 3) := by decide +kernel
theorem f4_29 : xFd (xMo 4) 29 = some (10, 3) := by decide +kernel
theorem d4_4 : decode prog_1_method_17_code 4 = .ok (.aload_n 0, 1) := by decide +kernel
theorem d4_5 : decode prog_1_method_17_code 5 = .ok (.getfield 19, 3) := by decide +kernel
theorem f4_19 : xFd (xMo 4) 19 = some (10, 1) := by decide +kernel
theorem d4_8 : decode prog_1_method_17_code 8 = .ok (.getfield 80, 3) := by decide +kernel
theorem f4_80 : xFd (xMo 4) 80 = some (2, 0) := by decide +kernel
theorem d4_11 : decode prog_1_method_17_code 11 = .ok (.invokevirtual 171, 3) := by decide +kernel
theorem k4_171_9 : xCa (xMo 4) 171 9 = some (1, 149, 1) := by decide +kernel
theorem n4_171 : xcn (xMo 4) 171 = some 1 := by decide +kernel
theorem d4_14 : decode prog_1_method_17_code 14 = .ok (.aload_n 0, 1) := by decide +kernel
theorem d4_15 : decode prog_1_method_17_code 15 = .ok (.iconst 1, 1) := by decide +kernel
theorem d4_16 : decode prog_1_method_17_code 16 = .ok (.putfield 158, 3) := by decide +kernel
theorem f4_158 : xFd (xMo 4) 158 = some (10, 4) := by decide +kernel
theorem d4_19 : decode prog_1_method_17_code 19 = .ok (.aload_n 0, 1) := by decide +kernel
theorem d4_20 : decode prog_1_method_17_code 20 = .ok (.getfield 19, 3) := by decide +kernel
theorem d4_23 : decode prog_1_method_17_code 23 = .ok (.getfield 80, 3) := by decide +kernel
theorem d4_26 : decode prog_1_method_17_code 26 = .ok (.invokevirtual 168, 3) := by decide +kernel
theorem k4_168_9 : xCa (xMo 4) 168 9 = some (1, 152, 0) := by decide +kernel
theorem n4_168 : xcn (xMo 4) 168 = some 0 := by decide +kernel
theorem d4_29 : decode prog_1_method_17_code 29 = .ok (.ireturn, 1) := by decide +kernel
set_option maxRecDepth 100000 in
theorem q5 : xMc 5 = prog_1_method_57_code := rfl
theorem m5 : xMl 5 = 1 ∧ xMret 5 = (some FieldType.boolean) ∧ xMh 5 = [] := by decide +kernel
theorem e5 {X : xX} {d : Nat} {w : xH} {Q : xO → xH → Prop} (x0 : Int32) : Cw X d 5 [.int x0] w Q = Wx X d 5 0 [some (.int x0)] [] w Q := by
  unfold Cw
  rw [m5.1]
  rfl
theorem d5_0 : decode prog_1_method_57_code 0 = .ok (.iload_n 0, 1) := by decide +kernel
theorem d5_1 : decode prog_1_method_57_code 1 = .ok (.ifCond .lt 14, 3) := by decide +kernel
theorem d5_4 : decode prog_1_method_57_code 4 = .ok (.iload_n 0, 1) := by decide +kernel
theorem d5_5 : decode prog_1_method_57_code 5 = .ok (.sipush 200, 3) := by decide +kernel
theorem d5_8 : decode prog_1_method_57_code 8 = .ok (.if_icmp .ge 7, 3) := by decide +kernel
theorem d5_11 : decode prog_1_method_57_code 11 = .ok (.iconst 1, 1) := by decide +kernel
theorem d5_12 : decode prog_1_method_57_code 12 = .ok (.goto 4, 3) := by decide +kernel
theorem d5_15 : decode prog_1_method_57_code 15 = .ok (.iconst 0, 1) := by decide +kernel
theorem d5_16 : decode prog_1_method_57_code 16 = .ok (.ireturn, 1) := by decide +kernel
set_option maxRecDepth 100000 in
theorem q6 : xMc 6 = prog_1_method_40_code := rfl
theorem m6 : xMl 6 = 1 ∧ xMret 6 = (some FieldType.int) ∧ xMh 6 = [] := by decide +kernel
theorem e6 {X : xX} {d : Nat} {w : xH} {Q : xO → xH → Prop} (a : Nat) : Cw X d 6 [.ref a] w Q = Wx X d 6 0 [some (.ref a)] [] w Q := by
  unfold Cw
  rw [m6.1]
  rfl
theorem d6_0 : decode prog_1_method_40_code 0 = .ok (.aload_n 0, 1) := by decide +kernel
theorem d6_1 : decode prog_1_method_40_code 1 = .ok (.getfield 19, 3) := by decide +kernel
theorem f6_19 : xFd (xMo 6) 19 = some (10, 1) := by decide +kernel
theorem d6_4 : decode prog_1_method_40_code 4 = .ok (.getfield 80, 3) := by decide +kernel
theorem f6_80 : xFd (xMo 6) 80 = some (2, 0) := by decide +kernel
theorem d6_7 : decode prog_1_method_40_code 7 = .ok (.invokevirtual 168, 3) := by decide +kernel
theorem k6_168_9 : xCa (xMo 6) 168 9 = some (1, 152, 0) := by decide +kernel
theorem n6_168 : xcn (xMo 6) 168 = some 0 := by decide +kernel
theorem d6_10 : decode prog_1_method_40_code 10 = .ok (.ireturn, 1) := by decide +kernel
set_option maxRecDepth 100000 in
theorem q7 : xMc 7 = prog_1_method_41_code := rfl
theorem m7 : xMl 7 = 1 ∧ xMret 7 = (some FieldType.int) ∧ xMh 7 = [] := by decide +kernel
theorem e7 {X : xX} {d : Nat} {w : xH} {Q : xO → xH → Prop} (a : Nat) : Cw X d 7 [.ref a] w Q = Wx X d 7 0 [some (.ref a)] [] w Q := by
  unfold Cw
  rw [m7.1]
  rfl
theorem d7_0 : decode prog_1_method_41_code 0 = .ok (.aload_n 0, 1) := by decide +kernel
theorem d7_1 : decode prog_1_method_41_code 1 = .ok (.getfield 19, 3) := by decide +kernel
theorem f7_19 : xFd (xMo 7) 19 = some (10, 1) := by decide +kernel
theorem d7_4 : decode prog_1_method_41_code 4 = .ok (.getfield 210, 3) := by decide +kernel
theorem f7_210 : xFd (xMo 7) 210 = some (2, 1) := by decide +kernel
theorem d7_7 : decode prog_1_method_41_code 7 = .ok (.getfield 253, 3) := by decide +kernel
theorem f7_253 : xFd (xMo 7) 253 = some (6, 2) := by decide +kernel
theorem d7_10 : decode prog_1_method_41_code 10 = .ok (.ireturn, 1) := by decide +kernel
set_option maxRecDepth 100000 in
theorem q8 : xMc 8 = prog_1_method_42_code := rfl
theorem m8 : xMl 8 = 1 ∧ xMret 8 = (some FieldType.int) ∧ xMh 8 = [] := by decide +kernel
theorem e8 {X : xX} {d : Nat} {w : xH} {Q : xO → xH → Prop} (a : Nat) : Cw X d 8 [.ref a] w Q = Wx X d 8 0 [some (.ref a)] [] w Q := by
  unfold Cw
  rw [m8.1]
  rfl
theorem d8_0 : decode prog_1_method_42_code 0 = .ok (.aload_n 0, 1) := by decide +kernel
theorem d8_1 : decode prog_1_method_42_code 1 = .ok (.getfield 19, 3) := by decide +kernel
theorem f8_19 : xFd (xMo 8) 19 = some (10, 1) := by decide +kernel
theorem d8_4 : decode prog_1_method_42_code 4 = .ok (.getfield 80, 3) := by decide +kernel
theorem f8_80 : xFd (xMo 8) 80 = some (2, 0) := by decide +kernel
theorem d8_7 : decode prog_1_method_42_code 7 = .ok (.invokevirtual 256, 3) := by decide +kernel
theorem k8_256_9 : xCa (xMo 8) 256 9 = some (1, 153, 0) := by decide +kernel
theorem n8_256 : xcn (xMo 8) 256 = some 0 := by decide +kernel
theorem d8_10 : decode prog_1_method_42_code 10 = .ok (.ireturn, 1) := by decide +kernel
set_option maxRecDepth 100000 in
theorem q9 : xMc 9 = prog_1_method_43_code := rfl
theorem m9 : xMl 9 = 1 ∧ xMret 9 = (some FieldType.int) ∧ xMh 9 = [] := by decide +kernel
theorem e9 {X : xX} {d : Nat} {w : xH} {Q : xO → xH → Prop} (a : Nat) : Cw X d 9 [.ref a] w Q = Wx X d 9 0 [some (.ref a)] [] w Q := by
  unfold Cw
  rw [m9.1]
  rfl
theorem d9_0 : decode prog_1_method_43_code 0 = .ok (.aload_n 0, 1) := by decide +kernel
theorem d9_1 : decode prog_1_method_43_code 1 = .ok (.getfield 19, 3) := by decide +kernel
theorem f9_19 : xFd (xMo 9) 19 = some (10, 1) := by decide +kernel
theorem d9_4 : decode prog_1_method_43_code 4 = .ok (.getfield 80, 3) := by decide +kernel
theorem f9_80 : xFd (xMo 9) 80 = some (2, 0) := by decide +kernel
theorem d9_7 : decode prog_1_method_43_code 7 = .ok (.getfield 259, 3) := by decide +kernel
theorem f9_259 : xFd (xMo 9) 259 = some (9, 5) := by decide +kernel
theorem d9_10 : decode prog_1_method_43_code 10 = .ok (.ireturn, 1) := by decide +kernel
set_option maxRecDepth 100000 in
theorem q10 : xMc 10 = prog_1_method_44_code := rfl
theorem m10 : xMl 10 = 1 ∧ xMret 10 = (some FieldType.int) ∧ xMh 10 = [] := by decide +kernel
theorem e10 {X : xX} {d : Nat} {w : xH} {Q : xO → xH → Prop} (a : Nat) : Cw X d 10 [.ref a] w Q = Wx X d 10 0 [some (.ref a)] [] w Q := by
  unfold Cw
  rw [m10.1]
  rfl
theorem d10_0 : decode prog_1_method_44_code 0 = .ok (.aload_n 0, 1) := by decide +kernel
theorem d10_1 : decode prog_1_method_44_code 1 = .ok (.getfield 19, 3) := by decide +kernel
theorem f10_19 : xFd (xMo 10) 19 = some (10, 1) := by decide +kernel
theorem d10_4 : decode prog_1_method_44_code 4 = .ok (.getfield 80, 3) := by decide +kernel
theorem f10_80 : xFd (xMo 10) 80 = some (2, 0) := by decide +kernel
theorem d10_7 : decode prog_1_method_44_code 7 = .ok (.getfield 262, 3) := by decide +kernel
theorem f10_262 : xFd (xMo 10) 262 = some (9, 6) := by decide +kernel
theorem d10_10 : decode prog_1_method_44_code 10 = .ok (.ireturn, 1) := by decide +kernel
set_option maxRecDepth 100000 in
theorem q11 : xMc 11 = prog_1_method_47_code := rfl
theorem m11 : xMl 11 = 2 ∧ xMret 11 = (some FieldType.double) ∧ xMh 11 = [] := by decide +kernel
theorem e11 {X : xX} {d : Nat} {w : xH} {Q : xO → xH → Prop} (a : Nat) : Cw X d 11 [.ref a] w Q = Wx X d 11 0 [some (.ref a), none] [] w Q := by
  unfold Cw
  rw [m11.1]
  rfl
theorem d11_0 : decode prog_1_method_47_code 0 = .ok (.aload_n 0, 1) := by decide +kernel
theorem d11_1 : decode prog_1_method_47_code 1 = .ok (.getfield 19, 3) := by decide +kernel
theorem f11_19 : xFd (xMo 11) 19 = some (10, 1) := by decide +kernel
theorem d11_4 : decode prog_1_method_47_code 4 = .ok (.getfield 80, 3) := by decide +kernel
theorem f11_80 : xFd (xMo 11) 80 = some (2, 0) := by decide +kernel
theorem d11_7 : decode prog_1_method_47_code 7 = .ok (.invokevirtual 168, 3) := by decide +kernel
theorem k11_168_9 : xCa (xMo 11) 168 9 = some (1, 152, 0) := by decide +kernel
theorem n11_168 : xcn (xMo 11) 168 = some 0 := by decide +kernel
theorem d11_10 : decode prog_1_method_47_code 10 = .ok (.aload_n 0, 1) := by decide +kernel
theorem d11_11 : decode prog_1_method_47_code 11 = .ok (.getfield 19, 3) := by decide +kernel
theorem d11_14 : decode prog_1_method_47_code 14 = .ok (.getfield 80, 3) := by decide +kernel
theorem d11_17 : decode prog_1_method_47_code 17 = .ok (.invokevirtual 256, 3) := by decide +kernel
theorem k11_256_9 : xCa (xMo 11) 256 9 = some (1, 153, 0) := by decide +kernel
theorem n11_256 : xcn (xMo 11) 256 = some 0 := by decide +kernel
theorem d11_20 : decode prog_1_method_47_code 20 = .ok (.isub, 1) := by decide +kernel
theorem d11_21 : decode prog_1_method_47_code 21 = .ok (.istore_n 1, 1) := by decide +kernel
theorem d11_22 : decode prog_1_method_47_code 22 = .ok (.iload_n 1, 1) := by decide +kernel
theorem d11_23 : decode prog_1_method_47_code 23 = .ok (.ifCond .gt 5, 3) := by decide +kernel
theorem d11_26 : decode prog_1_method_47_code 26 = .ok (.dconst 0, 1) := by decide +kernel
theorem d11_27 : decode prog_1_method_47_code 27 = .ok (.dreturn, 1) := by decide +kernel
theorem d11_28 : decode prog_1_method_47_code 28 = .ok (.aload_n 0, 1) := by decide +kernel
theorem d11_29 : decode prog_1_method_47_code 29 = .ok (.getfield 19, 3) := by decide +kernel
theorem d11_32 : decode prog_1_method_47_code 32 = .ok (.getfield 80, 3) := by decide +kernel
theorem d11_35 : decode prog_1_method_47_code 35 = .ok (.iconst 0, 1) := by decide +kernel
theorem d11_36 : decode prog_1_method_47_code 36 = .ok (.iconst 1, 1) := by decide +kernel
theorem d11_37 : decode prog_1_method_47_code 37 = .ok (.sipush 200, 3) := by decide +kernel
theorem d11_40 : decode prog_1_method_47_code 40 = .ok (.invokevirtual 265, 3) := by decide +kernel
theorem k11_265_9 : xCa (xMo 11) 265 9 = some (1, 154, 3) := by decide +kernel
theorem n11_265 : xcn (xMo 11) 265 = some 3 := by decide +kernel
theorem d11_43 : decode prog_1_method_47_code 43 = .ok (.l2d, 1) := by decide +kernel
theorem d11_44 : decode prog_1_method_47_code 44 = .ok (.iload_n 1, 1) := by decide +kernel
theorem d11_45 : decode prog_1_method_47_code 45 = .ok (.i2d, 1) := by decide +kernel
theorem d11_46 : decode prog_1_method_47_code 46 = .ok (.ddiv, 1) := by decide +kernel
theorem d11_47 : decode prog_1_method_47_code 47 = .ok (.dreturn, 1) := by decide +kernel
set_option maxRecDepth 100000 in
theorem q12 : xMc 12 = prog_1_method_48_code := rfl
theorem m12 : xMl 12 = 2 ∧ xMret 12 = (some FieldType.int) ∧ xMh 12 = [] := by decide +kernel
theorem e12 {X : xX} {d : Nat} {w : xH} {Q : xO → xH → Prop} (a : Nat) (x0 : Int32) : Cw X d 12 [.ref a, .int x0] w Q = Wx X d 12 0 [some (.ref a), some (.int x0)] [] w Q := by
  unfold Cw
  rw [m12.1]
  rfl
theorem d12_0 : decode prog_1_method_48_code 0 = .ok (.aload_n 0, 1) := by decide +kernel
theorem d12_1 : decode prog_1_method_48_code 1 = .ok (.getfield 19, 3) := by decide +kernel
theorem f12_19 : xFd (xMo 12) 19 = some (10, 1) := by decide +kernel
theorem d12_4 : decode prog_1_method_48_code 4 = .ok (.getfield 80, 3) := by decide +kernel
theorem f12_80 : xFd (xMo 12) 80 = some (2, 0) := by decide +kernel
theorem d12_7 : decode prog_1_method_48_code 7 = .ok (.iload_n 1, 1) := by decide +kernel
theorem d12_8 : decode prog_1_method_48_code 8 = .ok (.invokevirtual 269, 3) := by decide +kernel
theorem k12_269_9 : xCa (xMo 12) 269 9 = some (1, 155, 1) := by decide +kernel
theorem n12_269 : xcn (xMo 12) 269 = some 1 := by decide +kernel
theorem d12_11 : decode prog_1_method_48_code 11 = .ok (.ireturn, 1) := by decide +kernel
set_option maxRecDepth 100000 in
theorem q13 : xMc 13 = prog_1_method_2_code := rfl
theorem m13 : xMl 13 = 2 ∧ xMret 13 = (some FieldType.int) ∧ xMh 13 = [] := by decide +kernel
theorem e13 {X : xX} {d : Nat} {w : xH} {Q : xO → xH → Prop} (a : Nat) (x0 : Int32) : Cw X d 13 [.ref a, .int x0] w Q = Wx X d 13 0 [some (.ref a), some (.int x0)] [] w Q := by
  unfold Cw
  rw [m13.1]
  rfl
theorem d13_0 : decode prog_1_method_2_code 0 = .ok (.iload_n 1, 1) := by decide +kernel
theorem d13_1 : decode prog_1_method_2_code 1 = .ok (.bipush 32, 2) := by decide +kernel
theorem d13_3 : decode prog_1_method_2_code 3 = .ok (.if_icmp .lt 9, 3) := by decide +kernel
theorem d13_6 : decode prog_1_method_2_code 6 = .ok (.iload_n 1, 1) := by decide +kernel
theorem d13_7 : decode prog_1_method_2_code 7 = .ok (.bipush 126, 2) := by decide +kernel
theorem d13_9 : decode prog_1_method_2_code 9 = .ok (.if_icmp .le 13, 3) := by decide +kernel
theorem d13_12 : decode prog_1_method_2_code 12 = .ok (.new 47, 3) := by decide +kernel
theorem d13_15 : decode prog_1_method_2_code 15 = .ok (.dup, 1) := by decide +kernel
theorem d13_16 : decode prog_1_method_2_code 16 = .ok (.ldc 49, 2) := by decide +kernel
theorem d13_18 : decode prog_1_method_2_code 18 = .ok (.invokespecial 51, 3) := by decide +kernel
theorem d13_21 : decode prog_1_method_2_code 21 = .ok (.athrow, 1) := by decide +kernel
theorem d13_22 : decode prog_1_method_2_code 22 = .ok (.aload_n 0, 1) := by decide +kernel
theorem d13_23 : decode prog_1_method_2_code 23 = .ok (.getfield 12, 3) := by decide +kernel
theorem f13_12 : xFd (xMo 13) 12 = some (10, 0) := by decide +kernel
theorem d13_26 : decode prog_1_method_2_code 26 = .ok (.getfield 54, 3) := by decide +kernel
theorem f13_54 : xFd (xMo 13) 54 = some (8, 1) := by decide +kernel
theorem d13_29 : decode prog_1_method_2_code 29 = .ok (.bipush 60, 2) := by decide +kernel
theorem d13_31 : decode prog_1_method_2_code 31 = .ok (.if_icmp .lt 13, 3) := by decide +kernel
theorem d13_34 : decode prog_1_method_2_code 34 = .ok (.new 58, 3) := by decide +kernel
theorem d13_37 : decode prog_1_method_2_code 37 = .ok (.dup, 1) := by decide +kernel
theorem d13_38 : decode prog_1_method_2_code 38 = .ok (.ldc 60, 2) := by decide +kernel
theorem d13_40 : decode prog_1_method_2_code 40 = .ok (.invokespecial 62, 3) := by decide +kernel
theorem d13_43 : decode prog_1_method_2_code 43 = .ok (.athrow, 1) := by decide +kernel
theorem d13_44 : decode prog_1_method_2_code 44 = .ok (.aload_n 0, 1) := by decide +kernel
theorem d13_45 : decode prog_1_method_2_code 45 = .ok (.getfield 12, 3) := by decide +kernel
theorem d13_48 : decode prog_1_method_2_code 48 = .ok (.iload_n 1, 1) := by decide +kernel
theorem d13_49 : decode prog_1_method_2_code 49 = .ok (.i2c, 1) := by decide +kernel
theorem d13_50 : decode prog_1_method_2_code 50 = .ok (.invokevirtual 63, 3) := by decide +kernel
theorem k13_63_8 : xCa (xMo 13) 63 8 = some (1, 145, 1) := by decide +kernel
theorem n13_63 : xcn (xMo 13) 63 = some 1 := by decide +kernel
theorem d13_53 : decode prog_1_method_2_code 53 = .ok (.aload_n 0, 1) := by decide +kernel
theorem d13_54 : decode prog_1_method_2_code 54 = .ok (.getfield 12, 3) := by decide +kernel
theorem d13_57 : decode prog_1_method_2_code 57 = .ok (.getfield 54, 3) := by decide +kernel
theorem d13_60 : decode prog_1_method_2_code 60 = .ok (.ireturn, 1) := by decide +kernel
set_option maxRecDepth 100000 in
theorem q14 : xMc 14 = prog_1_method_6_code := rfl
theorem m14 : xMl 14 = 2 ∧ xMret 14 = (some FieldType.int) ∧ xMh 14 = [] := by decide +kernel
theorem e14 {X : xX} {d : Nat} {w : xH} {Q : xO → xH → Prop} (a : Nat) (x0 : Int32) : Cw X d 14 [.ref a, .int x0] w Q = Wx X d 14 0 [some (.ref a), some (.int x0)] [] w Q := by
  unfold Cw
  rw [m14.1]
  rfl
theorem d14_0 : decode prog_1_method_6_code 0 = .ok (.iload_n 1, 1) := by decide +kernel
theorem d14_1 : decode prog_1_method_6_code 1 = .ok (.invokestatic 74, 3) := by decide +kernel
theorem k14_74_99 : xCa (xMo 14) 74 99 = some (0, 15, 1) := by decide +kernel
theorem d14_4 : decode prog_1_method_6_code 4 = .ok (.aload_n 0, 1) := by decide +kernel
theorem d14_5 : decode prog_1_method_6_code 5 = .ok (.getfield 12, 3) := by decide +kernel
theorem f14_12 : xFd (xMo 14) 12 = some (10, 0) := by decide +kernel
theorem d14_8 : decode prog_1_method_6_code 8 = .ok (.invokevirtual 67, 3) := by decide +kernel
theorem k14_67_8 : xCa (xMo 14) 67 8 = some (1, 122, 0) := by decide +kernel
theorem n14_67 : xcn (xMo 14) 67 = some 0 := by decide +kernel
theorem d14_11 : decode prog_1_method_6_code 11 = .ok (.ifCond .lt 13, 3) := by decide +kernel
theorem d14_14 : decode prog_1_method_6_code 14 = .ok (.new 58, 3) := by decide +kernel
theorem d14_17 : decode prog_1_method_6_code 17 = .ok (.dup, 1) := by decide +kernel
theorem d14_18 : decode prog_1_method_6_code 18 = .ok (.ldc 78, 2) := by decide +kernel
theorem d14_20 : decode prog_1_method_6_code 20 = .ok (.invokespecial 62, 3) := by decide +kernel
theorem d14_23 : decode prog_1_method_6_code 23 = .ok (.athrow, 1) := by decide +kernel
theorem d14_24 : decode prog_1_method_6_code 24 = .ok (.aload_n 0, 1) := by decide +kernel
theorem d14_25 : decode prog_1_method_6_code 25 = .ok (.getfield 36, 3) := by decide +kernel
theorem f14_36 : xFd (xMo 14) 36 = some (10, 5) := by decide +kernel
theorem d14_28 : decode prog_1_method_6_code 28 = .ok (.aload_n 0, 1) := by decide +kernel
theorem d14_29 : decode prog_1_method_6_code 29 = .ok (.getfield 19, 3) := by decide +kernel
theorem f14_19 : xFd (xMo 14) 19 = some (10, 1) := by decide +kernel
theorem d14_32 : decode prog_1_method_6_code 32 = .ok (.getfield 80, 3) := by decide +kernel
theorem f14_80 : xFd (xMo 14) 80 = some (2, 0) := by decide +kernel
theorem d14_35 : decode prog_1_method_6_code 35 = .ok (.invokevirtual 83, 3) := by decide +kernel
theorem k14_83_4 : xCa (xMo 14) 83 4 = some (1, 90, 1) := by decide +kernel
theorem n14_83 : xcn (xMo 14) 83 = some 1 := by decide +kernel
theorem d14_38 : decode prog_1_method_6_code 38 = .ok (.pop, 1) := by decide +kernel
theorem d14_39 : decode prog_1_method_6_code 39 = .ok (.aload_n 0, 1) := by decide +kernel
theorem d14_40 : decode prog_1_method_6_code 40 = .ok (.getfield 19, 3) := by decide +kernel
theorem d14_43 : decode prog_1_method_6_code 43 = .ok (.getfield 80, 3) := by decide +kernel
theorem d14_46 : decode prog_1_method_6_code 46 = .ok (.iload_n 1, 1) := by decide +kernel
theorem d14_47 : decode prog_1_method_6_code 47 = .ok (.aload_n 0, 1) := by decide +kernel
theorem d14_48 : decode prog_1_method_6_code 48 = .ok (.getfield 12, 3) := by decide +kernel
theorem d14_51 : decode prog_1_method_6_code 51 = .ok (.invokevirtual 87, 3) := by decide +kernel
theorem k14_87_9 : xCa (xMo 14) 87 9 = some (1, 156, 2) := by decide +kernel
theorem n14_87 : xcn (xMo 14) 87 = some 2 := by decide +kernel
theorem d14_54 : decode prog_1_method_6_code 54 = .ok (.aload_n 0, 1) := by decide +kernel
theorem d14_55 : decode prog_1_method_6_code 55 = .ok (.getfield 19, 3) := by decide +kernel
theorem d14_58 : decode prog_1_method_6_code 58 = .ok (.iload_n 1, 1) := by decide +kernel
theorem d14_59 : decode prog_1_method_6_code 59 = .ok (.invokevirtual 91, 3) := by decide +kernel
theorem k14_91_2 : xCa (xMo 14) 91 2 = some (1, 63, 1) := by decide +kernel
theorem n14_91 : xcn (xMo 14) 91 = some 1 := by decide +kernel
theorem d14_62 : decode prog_1_method_6_code 62 = .ok (.ireturn, 1) := by decide +kernel
set_option maxRecDepth 100000 in
theorem q15 : xMc 15 = prog_1_method_52_code := rfl
theorem m15 : xMl 15 = 1 ∧ xMret 15 = none ∧ xMh 15 = [] := by decide +kernel
theorem e15 {X : xX} {d : Nat} {w : xH} {Q : xO → xH → Prop} (x0 : Int32) : Cw X d 15 [.int x0] w Q = Wx X d 15 0 [some (.int x0)] [] w Q := by
  unfold Cw
  rw [m15.1]
  rfl
theorem d15_0 : decode prog_1_method_52_code 0 = .ok (.iload_n 0, 1) := by decide +kernel
theorem d15_1 : decode prog_1_method_52_code 1 = .ok (.invokestatic 281, 3) := by decide +kernel
theorem k15_281_99 : xCa (xMo 15) 281 99 = some (0, 5, 1) := by decide +kernel
theorem d15_4 : decode prog_1_method_52_code 4 = .ok (.ifCond .ne 14, 3) := by decide +kernel
theorem d15_7 : decode prog_1_method_52_code 7 = .ok (.new 47, 3) := by decide +kernel
theorem d15_10 : decode prog_1_method_52_code 10 = .ok (.dup, 1) := by decide +kernel
theorem d15_11 : decode prog_1_method_52_code 11 = .ok (.ldc_w 285, 3) := by decide +kernel
theorem d15_14 : decode prog_1_method_52_code 14 = .ok (.invokespecial 51, 3) := by decide +kernel
theorem d15_17 : decode prog_1_method_52_code 17 = .ok (.athrow, 1) := by decide +kernel
theorem d15_18 : decode prog_1_method_52_code 18 = .ok (.return_, 1) := by decide +kernel
set_option maxRecDepth 100000 in
theorem q16 : xMc 16 = prog_1_method_7_code := rfl
theorem m16 : xMl 16 = 3 ∧ xMret 16 = (some FieldType.int) ∧ xMh 16 = [] := by decide +kernel
theorem e16 {X : xX} {d : Nat} {w : xH} {Q : xO → xH → Prop} (a : Nat) (x0 : Int32) (x1 : Int32) : Cw X d 16 [.ref a, .int x0, .int x1] w Q = Wx X d 16 0 [some (.ref a), some (.int x0), some (.int x1)] [] w Q := by
  unfold Cw
  rw [m16.1]
  rfl
theorem d16_0 : decode prog_1_method_7_code 0 = .ok (.iload_n 1, 1) := by decide +kernel
theorem d16_1 : decode prog_1_method_7_code 1 = .ok (.invokestatic 74, 3) := by decide +kernel
theorem k16_74_99 : xCa (xMo 16) 74 99 = some (0, 15, 1) := by decide +kernel
theorem d16_4 : decode prog_1_method_7_code 4 = .ok (.iload_n 2, 1) := by decide +kernel
theorem d16_5 : decode prog_1_method_7_code 5 = .ok (.invokestatic 95, 3) := by decide +kernel
theorem k16_95_99 : xCa (xMo 16) 95 99 = some (0, 17, 1) := by decide +kernel
theorem d16_8 : decode prog_1_method_7_code 8 = .ok (.aload_n 0, 1) := by decide +kernel
theorem d16_9 : decode prog_1_method_7_code 9 = .ok (.getfield 36, 3) := by decide +kernel
theorem f16_36 : xFd (xMo 16) 36 = some (10, 5) := by decide +kernel
theorem d16_12 : decode prog_1_method_7_code 12 = .ok (.aload_n 0, 1) := by decide +kernel
theorem d16_13 : decode prog_1_method_7_code 13 = .ok (.getfield 19, 3) := by decide +kernel
theorem f16_19 : xFd (xMo 16) 19 = some (10, 1) := by decide +kernel
theorem d16_16 : decode prog_1_method_7_code 16 = .ok (.getfield 80, 3) := by decide +kernel
theorem f16_80 : xFd (xMo 16) 80 = some (2, 0) := by decide +kernel
theorem d16_19 : decode prog_1_method_7_code 19 = .ok (.invokevirtual 83, 3) := by decide +kernel
theorem k16_83_4 : xCa (xMo 16) 83 4 = some (1, 90, 1) := by decide +kernel
theorem n16_83 : xcn (xMo 16) 83 = some 1 := by decide +kernel
theorem d16_22 : decode prog_1_method_7_code 22 = .ok (.pop, 1) := by decide +kernel
theorem d16_23 : decode prog_1_method_7_code 23 = .ok (.aload_n 0, 1) := by decide +kernel
theorem d16_24 : decode prog_1_method_7_code 24 = .ok (.getfield 19, 3) := by decide +kernel
theorem d16_27 : decode prog_1_method_7_code 27 = .ok (.getfield 80, 3) := by decide +kernel
theorem d16_30 : decode prog_1_method_7_code 30 = .ok (.iload_n 1, 1) := by decide +kernel
theorem d16_31 : decode prog_1_method_7_code 31 = .ok (.iload_n 2, 1) := by decide +kernel
theorem d16_32 : decode prog_1_method_7_code 32 = .ok (.invokevirtual 98, 3) := by decide +kernel
theorem k16_98_9 : xCa (xMo 16) 98 9 = some (1, 159, 2) := by decide +kernel
theorem n16_98 : xcn (xMo 16) 98 = some 2 := by decide +kernel
theorem d16_35 : decode prog_1_method_7_code 35 = .ok (.aload_n 0, 1) := by decide +kernel
theorem d16_36 : decode prog_1_method_7_code 36 = .ok (.getfield 19, 3) := by decide +kernel
theorem d16_39 : decode prog_1_method_7_code 39 = .ok (.iload_n 1, 1) := by decide +kernel
theorem d16_40 : decode prog_1_method_7_code 40 = .ok (.invokevirtual 91, 3) := by decide +kernel
theorem k16_91_2 : xCa (xMo 16) 91 2 = some (1, 63, 1) := by decide +kernel
theorem n16_91 : xcn (xMo 16) 91 = some 1 := by decide +kernel
theorem d16_43 : decode prog_1_method_7_code 43 = .ok (.ireturn, 1) := by decide +kernel
set_option maxRecDepth 100000 in
theorem q17 : xMc 17 = prog_1_method_55_code := rfl
theorem m17 : xMl 17 = 1 ∧ xMret 17 = none ∧ xMh 17 = [] := by decide +kernel
theorem e17 {X : xX} {d : Nat} {w : xH} {Q : xO → xH → Prop} (x0 : Int32) : Cw X d 17 [.int x0] w Q = Wx X d 17 0 [some (.int x0)] [] w Q := by
  unfold Cw
  rw [m17.1]
  rfl
theorem d17_0 : decode prog_1_method_55_code 0 = .ok (.iload_n 0, 1) := by decide +kernel
theorem d17_1 : decode prog_1_method_55_code 1 = .ok (.ldc_w 291, 3) := by decide +kernel
theorem d17_4 : decode prog_1_method_55_code 4 = .ok (.if_icmp .lt 10, 3) := by decide +kernel
theorem d17_7 : decode prog_1_method_55_code 7 = .ok (.iload_n 0, 1) := by decide +kernel
theorem d17_8 : decode prog_1_method_55_code 8 = .ok (.ldc_w 292, 3) := by decide +kernel
theorem d17_11 : decode prog_1_method_55_code 11 = .ok (.if_icmp .le 14, 3) := by decide +kernel
theorem d17_14 : decode prog_1_method_55_code 14 = .ok (.new 47, 3) := by decide +kernel
theorem d17_17 : decode prog_1_method_55_code 17 = .ok (.dup, 1) := by decide +kernel
theorem d17_18 : decode prog_1_method_55_code 18 = .ok (.ldc_w 293, 3) := by decide +kernel
theorem d17_21 : decode prog_1_method_55_code 21 = .ok (.invokespecial 51, 3) := by decide +kernel
theorem d17_24 : decode prog_1_method_55_code 24 = .ok (.athrow, 1) := by decide +kernel
theorem d17_25 : decode prog_1_method_55_code 25 = .ok (.return_, 1) := by decide +kernel
set_option maxRecDepth 100000 in
theorem q18 : xMc 18 = prog_1_method_8_code := rfl
theorem m18 : xMl 18 = 2 ∧ xMret 18 = (some FieldType.int) ∧ xMh 18 = [] := by decide +kernel
theorem e18 {X : xX} {d : Nat} {w : xH} {Q : xO → xH → Prop} (a : Nat) (x0 : Int32) : Cw X d 18 [.ref a, .int x0] w Q = Wx X d 18 0 [some (.ref a), some (.int x0)] [] w Q := by
  unfold Cw
  rw [m18.1]
  rfl
theorem d18_0 : decode prog_1_method_8_code 0 = .ok (.iload_n 1, 1) := by decide +kernel
theorem d18_1 : decode prog_1_method_8_code 1 = .ok (.invokestatic 74, 3) := by decide +kernel
theorem k18_74_99 : xCa (xMo 18) 74 99 = some (0, 15, 1) := by decide +kernel
theorem d18_4 : decode prog_1_method_8_code 4 = .ok (.aload_n 0, 1) := by decide +kernel
theorem d18_5 : decode prog_1_method_8_code 5 = .ok (.getfield 36, 3) := by decide +kernel
theorem f18_36 : xFd (xMo 18) 36 = some (10, 5) := by decide +kernel
theorem d18_8 : decode prog_1_method_8_code 8 = .ok (.aload_n 0, 1) := by decide +kernel
theorem d18_9 : decode prog_1_method_8_code 9 = .ok (.getfield 19, 3) := by decide +kernel
theorem f18_19 : xFd (xMo 18) 19 = some (10, 1) := by decide +kernel
theorem d18_12 : decode prog_1_method_8_code 12 = .ok (.getfield 80, 3) := by decide +kernel
theorem f18_80 : xFd (xMo 18) 80 = some (2, 0) := by decide +kernel
theorem d18_15 : decode prog_1_method_8_code 15 = .ok (.invokevirtual 83, 3) := by decide +kernel
theorem k18_83_4 : xCa (xMo 18) 83 4 = some (1, 90, 1) := by decide +kernel
theorem n18_83 : xcn (xMo 18) 83 = some 1 := by decide +kernel
theorem d18_18 : decode prog_1_method_8_code 18 = .ok (.pop, 1) := by decide +kernel
theorem d18_19 : decode prog_1_method_8_code 19 = .ok (.aload_n 0, 1) := by decide +kernel
theorem d18_20 : decode prog_1_method_8_code 20 = .ok (.getfield 19, 3) := by decide +kernel
theorem d18_23 : decode prog_1_method_8_code 23 = .ok (.getfield 80, 3) := by decide +kernel
theorem d18_26 : decode prog_1_method_8_code 26 = .ok (.iload_n 1, 1) := by decide +kernel
theorem d18_27 : decode prog_1_method_8_code 27 = .ok (.invokevirtual 102, 3) := by decide +kernel
theorem k18_102_9 : xCa (xMo 18) 102 9 = some (1, 161, 1) := by decide +kernel
theorem n18_102 : xcn (xMo 18) 102 = some 1 := by decide +kernel
theorem d18_30 : decode prog_1_method_8_code 30 = .ok (.aload_n 0, 1) := by decide +kernel
theorem d18_31 : decode prog_1_method_8_code 31 = .ok (.getfield 19, 3) := by decide +kernel
theorem d18_34 : decode prog_1_method_8_code 34 = .ok (.iload_n 1, 1) := by decide +kernel
theorem d18_35 : decode prog_1_method_8_code 35 = .ok (.invokevirtual 91, 3) := by decide +kernel
theorem k18_91_2 : xCa (xMo 18) 91 2 = some (1, 63, 1) := by decide +kernel
theorem n18_91 : xcn (xMo 18) 91 = some 1 := by decide +kernel
theorem d18_38 : decode prog_1_method_8_code 38 = .ok (.ireturn, 1) := by decide +kernel
set_option maxRecDepth 100000 in
theorem q19 : xMc 19 = prog_1_method_9_code := rfl
theorem m19 : xMl 19 = 11 ∧ xMret 19 = (some FieldType.int) ∧ xMh 19 = [] := by decide +kernel
theorem e19 {X : xX} {d : Nat} {w : xH} {Q : xO → xH → Prop} (a : Nat) (x0 : Int32) (x1 : Int32) (x2 : Int32) : Cw X d 19 [.ref a, .int x0, .int x1, .int x2] w Q = Wx X d 19 0 [some (.ref a), some (.int x0), some (.int x1), some (.int x2), none, none, none, none, none, none, none] [] w Q := by
  unfold Cw
  rw [m19.1]
  rfl
theorem d19_0 : decode prog_1_method_9_code 0 = .ok (.iload_n 1, 1) := by decide +kernel
theorem d19_1 : decode prog_1_method_9_code 1 = .ok (.invokestatic 74, 3) := by decide +kernel
theorem k19_74_99 : xCa (xMo 19) 74 99 = some (0, 15, 1) := by decide +kernel
theorem d19_4 : decode prog_1_method_9_code 4 = .ok (.iload_n 2, 1) := by decide +kernel
theorem d19_5 : decode prog_1_method_9_code 5 = .ok (.invokestatic 74, 3) := by decide +kernel
theorem d19_8 : decode prog_1_method_9_code 8 = .ok (.iload_n 3, 1) := by decide +kernel
theorem d19_9 : decode prog_1_method_9_code 9 = .ok (.invokestatic 74, 3) := by decide +kernel
theorem d19_12 : decode prog_1_method_9_code 12 = .ok (.iload_n 2, 1) := by decide +kernel
theorem d19_13 : decode prog_1_method_9_code 13 = .ok (.bipush 10, 2) := by decide +kernel
theorem d19_15 : decode prog_1_method_9_code 15 = .ok (.idiv, 1) := by decide +kernel
theorem d19_16 : decode prog_1_method_9_code 16 = .ok (.iload_n 1, 1) := by decide +kernel
theorem d19_17 : decode prog_1_method_9_code 17 = .ok (.bipush 10, 2) := by decide +kernel
theorem d19_19 : decode prog_1_method_9_code 19 = .ok (.idiv, 1) := by decide +kernel
theorem d19_20 : decode prog_1_method_9_code 20 = .ok (.isub, 1) := by decide +kernel
theorem d19_21 : decode prog_1_method_9_code 21 = .ok (.iconst 1, 1) := by decide +kernel
theorem d19_22 : decode prog_1_method_9_code 22 = .ok (.iadd, 1) := by decide +kernel
theorem d19_23 : decode prog_1_method_9_code 23 = .ok (.istore 4, 2) := by decide +kernel
theorem d19_25 : decode prog_1_method_9_code 25 = .ok (.iload_n 2, 1) := by decide +kernel
theorem d19_26 : decode prog_1_method_9_code 26 = .ok (.bipush 10, 2) := by decide +kernel
theorem d19_28 : decode prog_1_method_9_code 28 = .ok (.irem, 1) := by decide +kernel
theorem d19_29 : decode prog_1_method_9_code 29 = .ok (.iload_n 1, 1) := by decide +kernel
theorem d19_30 : decode prog_1_method_9_code 30 = .ok (.bipush 10, 2) := by decide +kernel
theorem d19_32 : decode prog_1_method_9_code 32 = .ok (.irem, 1) := by decide +kernel
theorem d19_33 : decode prog_1_method_9_code 33 = .ok (.isub, 1) := by decide +kernel
theorem d19_34 : decode prog_1_method_9_code 34 = .ok (.iconst 1, 1) := by decide +kernel
theorem d19_35 : decode prog_1_method_9_code 35 = .ok (.iadd, 1) := by decide +kernel
theorem d19_36 : decode prog_1_method_9_code 36 = .ok (.istore 5, 2) := by decide +kernel
theorem d19_38 : decode prog_1_method_9_code 38 = .ok (.iload 4, 2) := by decide +kernel
theorem d19_40 : decode prog_1_method_9_code 40 = .ok (.iconst 1, 1) := by decide +kernel
theorem d19_41 : decode prog_1_method_9_code 41 = .ok (.if_icmp .lt 9, 3) := by decide +kernel
theorem d19_44 : decode prog_1_method_9_code 44 = .ok (.iload 5, 2) := by decide +kernel
theorem d19_46 : decode prog_1_method_9_code 46 = .ok (.iconst 1, 1) := by decide +kernel
theorem d19_47 : decode prog_1_method_9_code 47 = .ok (.if_icmp .ge 13, 3) := by decide +kernel
theorem d19_50 : decode prog_1_method_9_code 50 = .ok (.new 47, 3) := by decide +kernel
theorem d19_53 : decode prog_1_method_9_code 53 = .ok (.dup, 1) := by decide +kernel
theorem d19_54 : decode prog_1_method_9_code 54 = .ok (.ldc 105, 2) := by decide +kernel
theorem d19_56 : decode prog_1_method_9_code 56 = .ok (.invokespecial 51, 3) := by decide +kernel
theorem d19_59 : decode prog_1_method_9_code 59 = .ok (.athrow, 1) := by decide +kernel
theorem d19_60 : decode prog_1_method_9_code 60 = .ok (.iload_n 3, 1) := by decide +kernel
theorem d19_61 : decode prog_1_method_9_code 61 = .ok (.bipush 10, 2) := by decide +kernel
theorem d19_63 : decode prog_1_method_9_code 63 = .ok (.idiv, 1) := by decide +kernel
theorem d19_64 : decode prog_1_method_9_code 64 = .ok (.iload 4, 2) := by decide +kernel
theorem d19_66 : decode prog_1_method_9_code 66 = .ok (.iadd, 1) := by decide +kernel
theorem d19_67 : decode prog_1_method_9_code 67 = .ok (.bipush 20, 2) := by decide +kernel
theorem d19_69 : decode prog_1_method_9_code 69 = .ok (.if_icmp .gt 15, 3) := by decide +kernel
theorem d19_72 : decode prog_1_method_9_code 72 = .ok (.iload_n 3, 1) := by decide +kernel
theorem d19_73 : decode prog_1_method_9_code 73 = .ok (.bipush 10, 2) := by decide +kernel
theorem d19_75 : decode prog_1_method_9_code 75 = .ok (.irem, 1) := by decide +kernel
theorem d19_76 : decode prog_1_method_9_code 76 = .ok (.iload 5, 2) := by decide +kernel
theorem d19_78 : decode prog_1_method_9_code 78 = .ok (.iadd, 1) := by decide +kernel
theorem d19_79 : decode prog_1_method_9_code 79 = .ok (.bipush 10, 2) := by decide +kernel
theorem d19_81 : decode prog_1_method_9_code 81 = .ok (.if_icmp .le 13, 3) := by decide +kernel
theorem d19_84 : decode prog_1_method_9_code 84 = .ok (.new 58, 3) := by decide +kernel
theorem d19_87 : decode prog_1_method_9_code 87 = .ok (.dup, 1) := by decide +kernel
theorem d19_88 : decode prog_1_method_9_code 88 = .ok (.ldc 107, 2) := by decide +kernel
theorem d19_90 : decode prog_1_method_9_code 90 = .ok (.invokespecial 62, 3) := by decide +kernel
theorem d19_93 : decode prog_1_method_9_code 93 = .ok (.athrow, 1) := by decide +kernel
theorem d19_94 : decode prog_1_method_9_code 94 = .ok (.aload_n 0, 1) := by decide +kernel
theorem d19_95 : decode prog_1_method_9_code 95 = .ok (.getfield 36, 3) := by decide +kernel
theorem f19_36 : xFd (xMo 19) 36 = some (10, 5) := by decide +kernel
theorem d19_98 : decode prog_1_method_9_code 98 = .ok (.aload_n 0, 1) := by decide +kernel
theorem d19_99 : decode prog_1_method_9_code 99 = .ok (.getfield 19, 3) := by decide +kernel
theorem f19_19 : xFd (xMo 19) 19 = some (10, 1) := by decide +kernel
theorem d19_102 : decode prog_1_method_9_code 102 = .ok (.getfield 80, 3) := by decide +kernel
theorem f19_80 : xFd (xMo 19) 80 = some (2, 0) := by decide +kernel
theorem d19_105 : decode prog_1_method_9_code 105 = .ok (.invokevirtual 83, 3) := by decide +kernel
theorem k19_83_4 : xCa (xMo 19) 83 4 = some (1, 90, 1) := by decide +kernel
theorem n19_83 : xcn (xMo 19) 83 = some 1 := by decide +kernel
theorem d19_108 : decode prog_1_method_9_code 108 = .ok (.astore 6, 2) := by decide +kernel
theorem d19_110 : decode prog_1_method_9_code 110 = .ok (.new 109, 3) := by decide +kernel
theorem d19_113 : decode prog_1_method_9_code 113 = .ok (.dup, 1) := by decide +kernel
theorem d19_114 : decode prog_1_method_9_code 114 = .ok (.iload_n 3, 1) := by decide +kernel
theorem d19_115 : decode prog_1_method_9_code 115 = .ok (.bipush 10, 2) := by decide +kernel
theorem d19_117 : decode prog_1_method_9_code 117 = .ok (.idiv, 1) := by decide +kernel
theorem d19_118 : decode prog_1_method_9_code 118 = .ok (.iload_n 1, 1) := by decide +kernel
theorem d19_119 : decode prog_1_method_9_code 119 = .ok (.bipush 10, 2) := by decide +kernel
theorem d19_121 : decode prog_1_method_9_code 121 = .ok (.idiv, 1) := by decide +kernel
theorem d19_122 : decode prog_1_method_9_code 122 = .ok (.isub, 1) := by decide +kernel
theorem d19_123 : decode prog_1_method_9_code 123 = .ok (.iload_n 3, 1) := by decide +kernel
theorem d19_124 : decode prog_1_method_9_code 124 = .ok (.bipush 10, 2) := by decide +kernel
theorem d19_126 : decode prog_1_method_9_code 126 = .ok (.irem, 1) := by decide +kernel
theorem d19_127 : decode prog_1_method_9_code 127 = .ok (.iload_n 1, 1) := by decide +kernel
theorem d19_128 : decode prog_1_method_9_code 128 = .ok (.bipush 10, 2) := by decide +kernel
theorem d19_130 : decode prog_1_method_9_code 130 = .ok (.irem, 1) := by decide +kernel
theorem d19_131 : decode prog_1_method_9_code 131 = .ok (.isub, 1) := by decide +kernel
theorem d19_132 : decode prog_1_method_9_code 132 = .ok (.invokespecial 111, 3) := by decide +kernel
theorem k19_111_98 : xCa (xMo 19) 111 98 = some (2, 86, 2) := by decide +kernel
theorem d19_135 : decode prog_1_method_9_code 135 = .ok (.astore 7, 2) := by decide +kernel
theorem d19_137 : decode prog_1_method_9_code 137 = .ok (.iconst 0, 1) := by decide +kernel
theorem d19_138 : decode prog_1_method_9_code 138 = .ok (.istore 8, 2) := by decide +kernel
theorem d19_140 : decode prog_1_method_9_code 140 = .ok (.iload 8, 2) := by decide +kernel
theorem d19_142 : decode prog_1_method_9_code 142 = .ok (.iload 4, 2) := by decide +kernel
theorem d19_144 : decode prog_1_method_9_code 144 = .ok (.if_icmp .ge 72, 3) := by decide +kernel
theorem d19_147 : decode prog_1_method_9_code 147 = .ok (.iconst 0, 1) := by decide +kernel
theorem d19_148 : decode prog_1_method_9_code 148 = .ok (.istore 9, 2) := by decide +kernel
theorem d19_150 : decode prog_1_method_9_code 150 = .ok (.iload 9, 2) := by decide +kernel
theorem d19_152 : decode prog_1_method_9_code 152 = .ok (.iload 5, 2) := by decide +kernel
theorem d19_154 : decode prog_1_method_9_code 154 = .ok (.if_icmp .ge 56, 3) := by decide +kernel
theorem d19_157 : decode prog_1_method_9_code 157 = .ok (.bipush 10, 2) := by decide +kernel
theorem d19_159 : decode prog_1_method_9_code 159 = .ok (.iload 8, 2) := by decide +kernel
theorem d19_161 : decode prog_1_method_9_code 161 = .ok (.imul, 1) := by decide +kernel
theorem d19_162 : decode prog_1_method_9_code 162 = .ok (.iload 9, 2) := by decide +kernel
theorem d19_164 : decode prog_1_method_9_code 164 = .ok (.iadd, 1) := by decide +kernel
theorem d19_165 : decode prog_1_method_9_code 165 = .ok (.istore 10, 2) := by decide +kernel
theorem d19_167 : decode prog_1_method_9_code 167 = .ok (.aload_n 0, 1) := by decide +kernel
theorem d19_168 : decode prog_1_method_9_code 168 = .ok (.getfield 19, 3) := by decide +kernel
theorem d19_171 : decode prog_1_method_9_code 171 = .ok (.getfield 80, 3) := by decide +kernel
theorem d19_174 : decode prog_1_method_9_code 174 = .ok (.iload_n 3, 1) := by decide +kernel
theorem d19_175 : decode prog_1_method_9_code 175 = .ok (.iload 10, 2) := by decide +kernel
theorem d19_177 : decode prog_1_method_9_code 177 = .ok (.iadd, 1) := by decide +kernel
theorem d19_178 : decode prog_1_method_9_code 178 = .ok (.aload 6, 2) := by decide +kernel
theorem d19_180 : decode prog_1_method_9_code 180 = .ok (.iload_n 1, 1) := by decide +kernel
theorem d19_181 : decode prog_1_method_9_code 181 = .ok (.iload 10, 2) := by decide +kernel
theorem d19_183 : decode prog_1_method_9_code 183 = .ok (.iadd, 1) := by decide +kernel
theorem d19_184 : decode prog_1_method_9_code 184 = .ok (.invokevirtual 113, 3) := by decide +kernel
theorem k19_113_9 : xCa (xMo 19) 113 9 = some (1, 150, 3) := by decide +kernel
theorem n19_113 : xcn (xMo 19) 113 = some 3 := by decide +kernel
theorem d19_187 : decode prog_1_method_9_code 187 = .ok (.aload_n 0, 1) := by decide +kernel
theorem d19_188 : decode prog_1_method_9_code 188 = .ok (.getfield 19, 3) := by decide +kernel
theorem d19_191 : decode prog_1_method_9_code 191 = .ok (.getfield 80, 3) := by decide +kernel
theorem d19_194 : decode prog_1_method_9_code 194 = .ok (.iload_n 3, 1) := by decide +kernel
theorem d19_195 : decode prog_1_method_9_code 195 = .ok (.iload 10, 2) := by decide +kernel
theorem d19_197 : decode prog_1_method_9_code 197 = .ok (.iadd, 1) := by decide +kernel
theorem d19_198 : decode prog_1_method_9_code 198 = .ok (.aload 7, 2) := by decide +kernel
theorem d19_200 : decode prog_1_method_9_code 200 = .ok (.invokevirtual 117, 3) := by decide +kernel
theorem k19_117_9 : xCa (xMo 19) 117 9 = some (1, 162, 2) := by decide +kernel
theorem n19_117 : xcn (xMo 19) 117 = some 2 := by decide +kernel
theorem d19_203 : decode prog_1_method_9_code 203 = .ok (.pop, 1) := by decide +kernel
theorem d19_204 : decode prog_1_method_9_code 204 = .ok (.iinc 9 1, 3) := by decide +kernel
theorem d19_207 : decode prog_1_method_9_code 207 = .ok (.goto (-57), 3) := by decide +kernel
theorem d19_210 : decode prog_1_method_9_code 210 = .ok (.iinc 8 1, 3) := by decide +kernel
theorem d19_213 : decode prog_1_method_9_code 213 = .ok (.goto (-73), 3) := by decide +kernel
theorem d19_216 : decode prog_1_method_9_code 216 = .ok (.aload_n 0, 1) := by decide +kernel
theorem d19_217 : decode prog_1_method_9_code 217 = .ok (.getfield 19, 3) := by decide +kernel
theorem d19_220 : decode prog_1_method_9_code 220 = .ok (.invokevirtual 121, 3) := by decide +kernel
theorem k19_121_2 : xCa (xMo 19) 121 2 = some (1, 83, 0) := by decide +kernel
theorem n19_121 : xcn (xMo 19) 121 = some 0 := by decide +kernel
theorem d19_223 : decode prog_1_method_9_code 223 = .ok (.pop, 1) := by decide +kernel
theorem d19_224 : decode prog_1_method_9_code 224 = .ok (.iload 4, 2) := by decide +kernel
theorem d19_226 : decode prog_1_method_9_code 226 = .ok (.iload 5, 2) := by decide +kernel
theorem d19_228 : decode prog_1_method_9_code 228 = .ok (.imul, 1) := by decide +kernel
theorem d19_229 : decode prog_1_method_9_code 229 = .ok (.ireturn, 1) := by decide +kernel
set_option maxRecDepth 100000 in
theorem q20 : xMc 20 = prog_1_method_10_code := rfl
theorem m20 : xMl 20 = 5 ∧ xMret 20 = (some FieldType.int) ∧ xMh 20 = [] := by decide +kernel
theorem e20 {X : xX} {d : Nat} {w : xH} {Q : xO → xH → Prop} (a : Nat) (x0 : Int32) (x1 : Int32) : Cw X d 20 [.ref a, .int x0, .int x1] w Q = Wx X d 20 0 [some (.ref a), some (.int x0), some (.int x1), none, none] [] w Q := by
  unfold Cw
  rw [m20.1]
  rfl
theorem d20_0 : decode prog_1_method_10_code 0 = .ok (.iload_n 1, 1) := by decide +kernel
theorem d20_1 : decode prog_1_method_10_code 1 = .ok (.invokestatic 74, 3) := by decide +kernel
theorem k20_74_99 : xCa (xMo 20) 74 99 = some (0, 15, 1) := by decide +kernel
theorem d20_4 : decode prog_1_method_10_code 4 = .ok (.iload_n 2, 1) := by decide +kernel
theorem d20_5 : decode prog_1_method_10_code 5 = .ok (.invokestatic 74, 3) := by decide +kernel
theorem d20_8 : decode prog_1_method_10_code 8 = .ok (.iload_n 1, 1) := by decide +kernel
theorem d20_9 : decode prog_1_method_10_code 9 = .ok (.iload_n 2, 1) := by decide +kernel
theorem d20_10 : decode prog_1_method_10_code 10 = .ok (.if_icmp .ne 13, 3) := by decide +kernel
theorem d20_13 : decode prog_1_method_10_code 13 = .ok (.new 47, 3) := by decide +kernel
theorem d20_16 : decode prog_1_method_10_code 16 = .ok (.dup, 1) := by decide +kernel
theorem d20_17 : decode prog_1_method_10_code 17 = .ok (.ldc 124, 2) := by decide +kernel
theorem d20_19 : decode prog_1_method_10_code 19 = .ok (.invokespecial 51, 3) := by decide +kernel
theorem d20_22 : decode prog_1_method_10_code 22 = .ok (.athrow, 1) := by decide +kernel
theorem d20_23 : decode prog_1_method_10_code 23 = .ok (.aload_n 0, 1) := by decide +kernel
theorem d20_24 : decode prog_1_method_10_code 24 = .ok (.getfield 36, 3) := by decide +kernel
theorem f20_36 : xFd (xMo 20) 36 = some (10, 5) := by decide +kernel
theorem d20_27 : decode prog_1_method_10_code 27 = .ok (.aload_n 0, 1) := by decide +kernel
theorem d20_28 : decode prog_1_method_10_code 28 = .ok (.getfield 19, 3) := by decide +kernel
theorem f20_19 : xFd (xMo 20) 19 = some (10, 1) := by decide +kernel
theorem d20_31 : decode prog_1_method_10_code 31 = .ok (.getfield 80, 3) := by decide +kernel
theorem f20_80 : xFd (xMo 20) 80 = some (2, 0) := by decide +kernel
theorem d20_34 : decode prog_1_method_10_code 34 = .ok (.invokevirtual 83, 3) := by decide +kernel
theorem k20_83_4 : xCa (xMo 20) 83 4 = some (1, 90, 1) := by decide +kernel
theorem n20_83 : xcn (xMo 20) 83 = some 1 := by decide +kernel
theorem d20_37 : decode prog_1_method_10_code 37 = .ok (.astore_n 3, 1) := by decide +kernel
theorem d20_38 : decode prog_1_method_10_code 38 = .ok (.aload_n 0, 1) := by decide +kernel
theorem d20_39 : decode prog_1_method_10_code 39 = .ok (.getfield 19, 3) := by decide +kernel
theorem d20_42 : decode prog_1_method_10_code 42 = .ok (.getfield 80, 3) := by decide +kernel
theorem d20_45 : decode prog_1_method_10_code 45 = .ok (.iload_n 2, 1) := by decide +kernel
theorem d20_46 : decode prog_1_method_10_code 46 = .ok (.aload_n 3, 1) := by decide +kernel
theorem d20_47 : decode prog_1_method_10_code 47 = .ok (.iload_n 1, 1) := by decide +kernel
theorem d20_48 : decode prog_1_method_10_code 48 = .ok (.invokevirtual 113, 3) := by decide +kernel
theorem k20_113_9 : xCa (xMo 20) 113 9 = some (1, 150, 3) := by decide +kernel
theorem n20_113 : xcn (xMo 20) 113 = some 3 := by decide +kernel
theorem d20_51 : decode prog_1_method_10_code 51 = .ok (.aload_n 0, 1) := by decide +kernel
theorem d20_52 : decode prog_1_method_10_code 52 = .ok (.getfield 19, 3) := by decide +kernel
theorem d20_55 : decode prog_1_method_10_code 55 = .ok (.getfield 80, 3) := by decide +kernel
theorem d20_58 : decode prog_1_method_10_code 58 = .ok (.iload_n 1, 1) := by decide +kernel
theorem d20_59 : decode prog_1_method_10_code 59 = .ok (.invokevirtual 102, 3) := by decide +kernel
theorem k20_102_9 : xCa (xMo 20) 102 9 = some (1, 161, 1) := by decide +kernel
theorem n20_102 : xcn (xMo 20) 102 = some 1 := by decide +kernel
theorem d20_62 : decode prog_1_method_10_code 62 = .ok (.aload_n 0, 1) := by decide +kernel
theorem d20_63 : decode prog_1_method_10_code 63 = .ok (.getfield 19, 3) := by decide +kernel
theorem d20_66 : decode prog_1_method_10_code 66 = .ok (.getfield 80, 3) := by decide +kernel
theorem d20_69 : decode prog_1_method_10_code 69 = .ok (.new 126, 3) := by decide +kernel
theorem d20_72 : decode prog_1_method_10_code 72 = .ok (.dup, 1) := by decide +kernel
theorem d20_73 : decode prog_1_method_10_code 73 = .ok (.iload_n 1, 1) := by decide +kernel
theorem d20_74 : decode prog_1_method_10_code 74 = .ok (.iload_n 2, 1) := by decide +kernel
theorem d20_75 : decode prog_1_method_10_code 75 = .ok (.invokespecial 128, 3) := by decide +kernel
theorem k20_128_98 : xCa (xMo 20) 128 98 = some (2, 120, 2) := by decide +kernel
theorem d20_78 : decode prog_1_method_10_code 78 = .ok (.invokevirtual 129, 3) := by decide +kernel
theorem k20_129_9 : xCa (xMo 20) 129 9 = some (1, 163, 1) := by decide +kernel
theorem n20_129 : xcn (xMo 20) 129 = some 1 := by decide +kernel
theorem d20_81 : decode prog_1_method_10_code 81 = .ok (.istore 4, 2) := by decide +kernel
theorem d20_83 : decode prog_1_method_10_code 83 = .ok (.aload_n 0, 1) := by decide +kernel
theorem d20_84 : decode prog_1_method_10_code 84 = .ok (.getfield 19, 3) := by decide +kernel
theorem d20_87 : decode prog_1_method_10_code 87 = .ok (.invokevirtual 121, 3) := by decide +kernel
theorem k20_121_2 : xCa (xMo 20) 121 2 = some (1, 83, 0) := by decide +kernel
theorem n20_121 : xcn (xMo 20) 121 = some 0 := by decide +kernel
theorem d20_90 : decode prog_1_method_10_code 90 = .ok (.pop, 1) := by decide +kernel
theorem d20_91 : decode prog_1_method_10_code 91 = .ok (.iload 4, 2) := by decide +kernel
theorem d20_93 : decode prog_1_method_10_code 93 = .ok (.ireturn, 1) := by decide +kernel
set_option maxRecDepth 100000 in
theorem q21 : xMc 21 = prog_1_method_11_code := rfl
theorem m21 : xMl 21 = 2 ∧ xMret 21 = (some FieldType.int) ∧ xMh 21 = [] := by decide +kernel
theorem e21 {X : xX} {d : Nat} {w : xH} {Q : xO → xH → Prop} (a : Nat) (x0 : Int32) : Cw X d 21 [.ref a, .int x0] w Q = Wx X d 21 0 [some (.ref a), some (.int x0)] [] w Q := by
  unfold Cw
  rw [m21.1]
  rfl
theorem d21_0 : decode prog_1_method_11_code 0 = .ok (.iload_n 1, 1) := by decide +kernel
theorem d21_1 : decode prog_1_method_11_code 1 = .ok (.invokestatic 133, 3) := by decide +kernel
theorem k21_133_99 : xCa (xMo 21) 133 99 = some (0, 22, 1) := by decide +kernel
theorem d21_4 : decode prog_1_method_11_code 4 = .ok (.aload_n 0, 1) := by decide +kernel
theorem d21_5 : decode prog_1_method_11_code 5 = .ok (.new 136, 3) := by decide +kernel
theorem d21_8 : decode prog_1_method_11_code 8 = .ok (.dup, 1) := by decide +kernel
theorem d21_9 : decode prog_1_method_11_code 9 = .ok (.iconst 1, 1) := by decide +kernel
theorem d21_10 : decode prog_1_method_11_code 10 = .ok (.iload_n 1, 1) := by decide +kernel
theorem d21_11 : decode prog_1_method_11_code 11 = .ok (.iconst 1, 1) := by decide +kernel
theorem d21_12 : decode prog_1_method_11_code 12 = .ok (.invokespecial 138, 3) := by decide +kernel
theorem k21_138_98 : xCa (xMo 21) 138 98 = some (2, 97, 3) := by decide +kernel
theorem d21_15 : decode prog_1_method_11_code 15 = .ok (.invokevirtual 141, 3) := by decide +kernel
theorem k21_141_10 : xCa (xMo 21) 141 10 = some (1, 23, 1) := by decide +kernel
theorem n21_141 : xcn (xMo 21) 141 = some 1 := by decide +kernel
theorem d21_18 : decode prog_1_method_11_code 18 = .ok (.ireturn, 1) := by decide +kernel
set_option maxRecDepth 100000 in
theorem q22 : xMc 22 = prog_1_method_53_code := rfl
theorem m22 : xMl 22 = 1 ∧ xMret 22 = none ∧ xMh 22 = [] := by decide +kernel
theorem e22 {X : xX} {d : Nat} {w : xH} {Q : xO → xH → Prop} (x0 : Int32) : Cw X d 22 [.int x0] w Q = Wx X d 22 0 [some (.int x0)] [] w Q := by
  unfold Cw
  rw [m22.1]
  rfl
theorem d22_0 : decode prog_1_method_53_code 0 = .ok (.iload_n 0, 1) := by decide +kernel
theorem d22_1 : decode prog_1_method_53_code 1 = .ok (.ifCond .lt 9, 3) := by decide +kernel
theorem d22_4 : decode prog_1_method_53_code 4 = .ok (.iload_n 0, 1) := by decide +kernel
theorem d22_5 : decode prog_1_method_53_code 5 = .ok (.bipush 20, 2) := by decide +kernel
theorem d22_7 : decode prog_1_method_53_code 7 = .ok (.if_icmp .lt 14, 3) := by decide +kernel
theorem d22_10 : decode prog_1_method_53_code 10 = .ok (.new 47, 3) := by decide +kernel
theorem d22_13 : decode prog_1_method_53_code 13 = .ok (.dup, 1) := by decide +kernel
theorem d22_14 : decode prog_1_method_53_code 14 = .ok (.ldc_w 287, 3) := by decide +kernel
theorem d22_17 : decode prog_1_method_53_code 17 = .ok (.invokespecial 51, 3) := by decide +kernel
theorem d22_20 : decode prog_1_method_53_code 20 = .ok (.athrow, 1) := by decide +kernel
theorem d22_21 : decode prog_1_method_53_code 21 = .ok (.return_, 1) := by decide +kernel
set_option maxRecDepth 100000 in
theorem q23 : xMc 23 = prog_1_method_61_code := rfl
theorem m23 : xMl 23 = 6 ∧ xMret 23 = (some FieldType.int) ∧ xMh 23 = [] := by decide +kernel
theorem e23 {X : xX} {d : Nat} {w : xH} {Q : xO → xH → Prop} (a : Nat) (x0 : Nat) : Cw X d 23 [.ref a, .ref x0] w Q = Wx X d 23 0 [some (.ref a), some (.ref x0), none, none, none, none] [] w Q := by
  unfold Cw
  rw [m23.1]
  rfl
theorem d23_0 : decode prog_1_method_61_code 0 = .ok (.aload_n 1, 1) := by decide +kernel
theorem d23_1 : decode prog_1_method_61_code 1 = .ok (.getfield 306, 3) := by decide +kernel
theorem f23_306 : xFd (xMo 23) 306 = some (5, 2) := by decide +kernel
theorem d23_4 : decode prog_1_method_61_code 4 = .ok (.ifCond .eq 32, 3) := by decide +kernel
theorem d23_7 : decode prog_1_method_61_code 7 = .ok (.aload_n 0, 1) := by decide +kernel
theorem d23_8 : decode prog_1_method_61_code 8 = .ok (.getfield 19, 3) := by decide +kernel
theorem f23_19 : xFd (xMo 23) 19 = some (10, 1) := by decide +kernel
theorem d23_11 : decode prog_1_method_61_code 11 = .ok (.getfield 80, 3) := by decide +kernel
theorem f23_80 : xFd (xMo 23) 80 = some (2, 0) := by decide +kernel
theorem d23_14 : decode prog_1_method_61_code 14 = .ok (.aload_n 1, 1) := by decide +kernel
theorem d23_15 : decode prog_1_method_61_code 15 = .ok (.aload_n 1, 1) := by decide +kernel
theorem d23_16 : decode prog_1_method_61_code 16 = .ok (.invokevirtual 309, 3) := by decide +kernel
theorem k23_309_5 : xCa (xMo 23) 309 5 = some (1, 94, 0) := by decide +kernel
theorem n23_309 : xcn (xMo 23) 309 = some 0 := by decide +kernel
theorem d23_19 : decode prog_1_method_61_code 19 = .ok (.invokevirtual 312, 3) := by decide +kernel
theorem k23_312_9 : xCa (xMo 23) 312 9 = some (1, 164, 2) := by decide +kernel
theorem n23_312 : xcn (xMo 23) 312 = some 2 := by decide +kernel
theorem d23_22 : decode prog_1_method_61_code 22 = .ok (.ifCond .eq 14, 3) := by decide +kernel
theorem d23_25 : decode prog_1_method_61_code 25 = .ok (.new 58, 3) := by decide +kernel
theorem d23_28 : decode prog_1_method_61_code 28 = .ok (.dup, 1) := by decide +kernel
theorem d23_29 : decode prog_1_method_61_code 29 = .ok (.ldc_w 316, 3) := by decide +kernel
theorem d23_32 : decode prog_1_method_61_code 32 = .ok (.invokespecial 62, 3) := by decide +kernel
theorem d23_35 : decode prog_1_method_61_code 35 = .ok (.athrow, 1) := by decide +kernel
theorem d23_36 : decode prog_1_method_61_code 36 = .ok (.aload_n 0, 1) := by decide +kernel
theorem d23_37 : decode prog_1_method_61_code 37 = .ok (.getfield 19, 3) := by decide +kernel
theorem d23_40 : decode prog_1_method_61_code 40 = .ok (.getfield 80, 3) := by decide +kernel
theorem d23_43 : decode prog_1_method_61_code 43 = .ok (.aload_n 1, 1) := by decide +kernel
theorem d23_44 : decode prog_1_method_61_code 44 = .ok (.invokevirtual 318, 3) := by decide +kernel
theorem k23_318_9 : xCa (xMo 23) 318 9 = some (1, 165, 1) := by decide +kernel
theorem n23_318 : xcn (xMo 23) 318 = some 1 := by decide +kernel
theorem d23_47 : decode prog_1_method_61_code 47 = .ok (.istore_n 2, 1) := by decide +kernel
theorem d23_48 : decode prog_1_method_61_code 48 = .ok (.aload_n 0, 1) := by decide +kernel
theorem d23_49 : decode prog_1_method_61_code 49 = .ok (.getfield 36, 3) := by decide +kernel
theorem f23_36 : xFd (xMo 23) 36 = some (10, 5) := by decide +kernel
theorem d23_52 : decode prog_1_method_61_code 52 = .ok (.aload_n 0, 1) := by decide +kernel
theorem d23_53 : decode prog_1_method_61_code 53 = .ok (.getfield 19, 3) := by decide +kernel
theorem d23_56 : decode prog_1_method_61_code 56 = .ok (.getfield 80, 3) := by decide +kernel
theorem d23_59 : decode prog_1_method_61_code 59 = .ok (.invokevirtual 83, 3) := by decide +kernel
theorem k23_83_4 : xCa (xMo 23) 83 4 = some (1, 90, 1) := by decide +kernel
theorem n23_83 : xcn (xMo 23) 83 = some 1 := by decide +kernel
theorem d23_62 : decode prog_1_method_61_code 62 = .ok (.astore_n 3, 1) := by decide +kernel
theorem d23_63 : decode prog_1_method_61_code 63 = .ok (.iconst 0, 1) := by decide +kernel
theorem d23_64 : decode prog_1_method_61_code 64 = .ok (.istore 4, 2) := by decide +kernel
theorem d23_66 : decode prog_1_method_61_code 66 = .ok (.iload 4, 2) := by decide +kernel
theorem d23_68 : decode prog_1_method_61_code 68 = .ok (.sipush 200, 3) := by decide +kernel
theorem d23_71 : decode prog_1_method_61_code 71 = .ok (.if_icmp .ge 52, 3) := by decide +kernel
theorem d23_74 : decode prog_1_method_61_code 74 = .ok (.aload_n 1, 1) := by decide +kernel
theorem d23_75 : decode prog_1_method_61_code 75 = .ok (.iload 4, 2) := by decide +kernel
theorem d23_77 : decode prog_1_method_61_code 77 = .ok (.invokevirtual 321, 3) := by decide +kernel
theorem k23_321_5 : xCa (xMo 23) 321 5 = some (1, 98, 1) := by decide +kernel
theorem n23_321 : xcn (xMo 23) 321 = some 1 := by decide +kernel
theorem d23_80 : decode prog_1_method_61_code 80 = .ok (.istore 5, 2) := by decide +kernel
theorem d23_82 : decode prog_1_method_61_code 82 = .ok (.iload 5, 2) := by decide +kernel
theorem d23_84 : decode prog_1_method_61_code 84 = .ok (.ifCond .ge 18, 3) := by decide +kernel
theorem d23_87 : decode prog_1_method_61_code 87 = .ok (.aload_n 0, 1) := by decide +kernel
theorem d23_88 : decode prog_1_method_61_code 88 = .ok (.getfield 19, 3) := by decide +kernel
theorem d23_91 : decode prog_1_method_61_code 91 = .ok (.getfield 80, 3) := by decide +kernel
theorem d23_94 : decode prog_1_method_61_code 94 = .ok (.iload 4, 2) := by decide +kernel
theorem d23_96 : decode prog_1_method_61_code 96 = .ok (.invokevirtual 102, 3) := by decide +kernel
theorem k23_102_9 : xCa (xMo 23) 102 9 = some (1, 161, 1) := by decide +kernel
theorem n23_102 : xcn (xMo 23) 102 = some 1 := by decide +kernel
theorem d23_99 : decode prog_1_method_61_code 99 = .ok (.goto 18, 3) := by decide +kernel
theorem d23_102 : decode prog_1_method_61_code 102 = .ok (.aload_n 0, 1) := by decide +kernel
theorem d23_103 : decode prog_1_method_61_code 103 = .ok (.getfield 19, 3) := by decide +kernel
theorem d23_106 : decode prog_1_method_61_code 106 = .ok (.getfield 80, 3) := by decide +kernel
theorem d23_109 : decode prog_1_method_61_code 109 = .ok (.iload 4, 2) := by decide +kernel
theorem d23_111 : decode prog_1_method_61_code 111 = .ok (.aload_n 3, 1) := by decide +kernel
theorem d23_112 : decode prog_1_method_61_code 112 = .ok (.iload 5, 2) := by decide +kernel
theorem d23_114 : decode prog_1_method_61_code 114 = .ok (.invokevirtual 113, 3) := by decide +kernel
theorem k23_113_9 : xCa (xMo 23) 113 9 = some (1, 150, 3) := by decide +kernel
theorem n23_113 : xcn (xMo 23) 113 = some 3 := by decide +kernel
theorem d23_117 : decode prog_1_method_61_code 117 = .ok (.iinc 4 1, 3) := by decide +kernel
theorem d23_120 : decode prog_1_method_61_code 120 = .ok (.goto (-54), 3) := by decide +kernel
theorem d23_123 : decode prog_1_method_61_code 123 = .ok (.aload_n 0, 1) := by decide +kernel
theorem d23_124 : decode prog_1_method_61_code 124 = .ok (.getfield 19, 3) := by decide +kernel
theorem d23_127 : decode prog_1_method_61_code 127 = .ok (.getfield 80, 3) := by decide +kernel
theorem d23_130 : decode prog_1_method_61_code 130 = .ok (.aload_n 1, 1) := by decide +kernel
theorem d23_131 : decode prog_1_method_61_code 131 = .ok (.invokevirtual 129, 3) := by decide +kernel
theorem k23_129_9 : xCa (xMo 23) 129 9 = some (1, 163, 1) := by decide +kernel
theorem n23_129 : xcn (xMo 23) 129 = some 1 := by decide +kernel
theorem d23_134 : decode prog_1_method_61_code 134 = .ok (.pop, 1) := by decide +kernel
theorem d23_135 : decode prog_1_method_61_code 135 = .ok (.aload_n 0, 1) := by decide +kernel
theorem d23_136 : decode prog_1_method_61_code 136 = .ok (.getfield 19, 3) := by decide +kernel
theorem d23_139 : decode prog_1_method_61_code 139 = .ok (.invokevirtual 121, 3) := by decide +kernel
theorem k23_121_2 : xCa (xMo 23) 121 2 = some (1, 83, 0) := by decide +kernel
theorem n23_121 : xcn (xMo 23) 121 = some 0 := by decide +kernel
theorem d23_142 : decode prog_1_method_61_code 142 = .ok (.pop, 1) := by decide +kernel
theorem d23_143 : decode prog_1_method_61_code 143 = .ok (.iload_n 2, 1) := by decide +kernel
theorem d23_144 : decode prog_1_method_61_code 144 = .ok (.ireturn, 1) := by decide +kernel
set_option maxRecDepth 100000 in
theorem q24 : xMc 24 = prog_1_method_12_code := rfl
theorem m24 : xMl 24 = 2 ∧ xMret 24 = (some FieldType.int) ∧ xMh 24 = [] := by decide +kernel
theorem e24 {X : xX} {d : Nat} {w : xH} {Q : xO → xH → Prop} (a : Nat) (x0 : Int32) : Cw X d 24 [.ref a, .int x0] w Q = Wx X d 24 0 [some (.ref a), some (.int x0)] [] w Q := by
  unfold Cw
  rw [m24.1]
  rfl
theorem d24_0 : decode prog_1_method_12_code 0 = .ok (.iload_n 1, 1) := by decide +kernel
theorem d24_1 : decode prog_1_method_12_code 1 = .ok (.invokestatic 133, 3) := by decide +kernel
theorem k24_133_99 : xCa (xMo 24) 133 99 = some (0, 22, 1) := by decide +kernel
theorem d24_4 : decode prog_1_method_12_code 4 = .ok (.aload_n 0, 1) := by decide +kernel
theorem d24_5 : decode prog_1_method_12_code 5 = .ok (.new 136, 3) := by decide +kernel
theorem d24_8 : decode prog_1_method_12_code 8 = .ok (.dup, 1) := by decide +kernel
theorem d24_9 : decode prog_1_method_12_code 9 = .ok (.iconst 1, 1) := by decide +kernel
theorem d24_10 : decode prog_1_method_12_code 10 = .ok (.iload_n 1, 1) := by decide +kernel
theorem d24_11 : decode prog_1_method_12_code 11 = .ok (.iconst 0, 1) := by decide +kernel
theorem d24_12 : decode prog_1_method_12_code 12 = .ok (.invokespecial 138, 3) := by decide +kernel
theorem k24_138_98 : xCa (xMo 24) 138 98 = some (2, 97, 3) := by decide +kernel
theorem d24_15 : decode prog_1_method_12_code 15 = .ok (.invokevirtual 141, 3) := by decide +kernel
theorem k24_141_10 : xCa (xMo 24) 141 10 = some (1, 23, 1) := by decide +kernel
theorem n24_141 : xcn (xMo 24) 141 = some 1 := by decide +kernel
theorem d24_18 : decode prog_1_method_12_code 18 = .ok (.ireturn, 1) := by decide +kernel
set_option maxRecDepth 100000 in
theorem q25 : xMc 25 = prog_1_method_13_code := rfl
theorem m25 : xMl 25 = 2 ∧ xMret 25 = (some FieldType.int) ∧ xMh 25 = [] := by decide +kernel
theorem e25 {X : xX} {d : Nat} {w : xH} {Q : xO → xH → Prop} (a : Nat) (x0 : Int32) : Cw X d 25 [.ref a, .int x0] w Q = Wx X d 25 0 [some (.ref a), some (.int x0)] [] w Q := by
  unfold Cw
  rw [m25.1]
  rfl
theorem d25_0 : decode prog_1_method_13_code 0 = .ok (.iload_n 1, 1) := by decide +kernel
theorem d25_1 : decode prog_1_method_13_code 1 = .ok (.invokestatic 145, 3) := by decide +kernel
theorem k25_145_99 : xCa (xMo 25) 145 99 = some (0, 26, 1) := by decide +kernel
theorem d25_4 : decode prog_1_method_13_code 4 = .ok (.aload_n 0, 1) := by decide +kernel
theorem d25_5 : decode prog_1_method_13_code 5 = .ok (.new 136, 3) := by decide +kernel
theorem d25_8 : decode prog_1_method_13_code 8 = .ok (.dup, 1) := by decide +kernel
theorem d25_9 : decode prog_1_method_13_code 9 = .ok (.iconst 0, 1) := by decide +kernel
theorem d25_10 : decode prog_1_method_13_code 10 = .ok (.iload_n 1, 1) := by decide +kernel
theorem d25_11 : decode prog_1_method_13_code 11 = .ok (.iconst 1, 1) := by decide +kernel
theorem d25_12 : decode prog_1_method_13_code 12 = .ok (.invokespecial 138, 3) := by decide +kernel
theorem k25_138_98 : xCa (xMo 25) 138 98 = some (2, 97, 3) := by decide +kernel
theorem d25_15 : decode prog_1_method_13_code 15 = .ok (.invokevirtual 141, 3) := by decide +kernel
theorem k25_141_10 : xCa (xMo 25) 141 10 = some (1, 23, 1) := by decide +kernel
theorem n25_141 : xcn (xMo 25) 141 = some 1 := by decide +kernel
theorem d25_18 : decode prog_1_method_13_code 18 = .ok (.ireturn, 1) := by decide +kernel
set_option maxRecDepth 100000 in
theorem q26 : xMc 26 = prog_1_method_54_code := rfl
theorem m26 : xMl 26 = 1 ∧ xMret 26 = none ∧ xMh 26 = [] := by decide +kernel
theorem e26 {X : xX} {d : Nat} {w : xH} {Q : xO → xH → Prop} (x0 : Int32) : Cw X d 26 [.int x0] w Q = Wx X d 26 0 [some (.int x0)] [] w Q := by
  unfold Cw
  rw [m26.1]
  rfl
theorem d26_0 : decode prog_1_method_54_code 0 = .ok (.iload_n 0, 1) := by decide +kernel
theorem d26_1 : decode prog_1_method_54_code 1 = .ok (.ifCond .lt 9, 3) := by decide +kernel
theorem d26_4 : decode prog_1_method_54_code 4 = .ok (.iload_n 0, 1) := by decide +kernel
theorem d26_5 : decode prog_1_method_54_code 5 = .ok (.bipush 10, 2) := by decide +kernel
theorem d26_7 : decode prog_1_method_54_code 7 = .ok (.if_icmp .lt 14, 3) := by decide +kernel
theorem d26_10 : decode prog_1_method_54_code 10 = .ok (.new 47, 3) := by decide +kernel
theorem d26_13 : decode prog_1_method_54_code 13 = .ok (.dup, 1) := by decide +kernel
theorem d26_14 : decode prog_1_method_54_code 14 = .ok (.ldc_w 289, 3) := by decide +kernel
theorem d26_17 : decode prog_1_method_54_code 17 = .ok (.invokespecial 51, 3) := by decide +kernel
theorem d26_20 : decode prog_1_method_54_code 20 = .ok (.athrow, 1) := by decide +kernel
theorem d26_21 : decode prog_1_method_54_code 21 = .ok (.return_, 1) := by decide +kernel
set_option maxRecDepth 100000 in
theorem q27 : xMc 27 = prog_1_method_14_code := rfl
theorem m27 : xMl 27 = 2 ∧ xMret 27 = (some FieldType.int) ∧ xMh 27 = [] := by decide +kernel
theorem e27 {X : xX} {d : Nat} {w : xH} {Q : xO → xH → Prop} (a : Nat) (x0 : Int32) : Cw X d 27 [.ref a, .int x0] w Q = Wx X d 27 0 [some (.ref a), some (.int x0)] [] w Q := by
  unfold Cw
  rw [m27.1]
  rfl
theorem d27_0 : decode prog_1_method_14_code 0 = .ok (.iload_n 1, 1) := by decide +kernel
theorem d27_1 : decode prog_1_method_14_code 1 = .ok (.invokestatic 145, 3) := by decide +kernel
theorem k27_145_99 : xCa (xMo 27) 145 99 = some (0, 26, 1) := by decide +kernel
theorem d27_4 : decode prog_1_method_14_code 4 = .ok (.aload_n 0, 1) := by decide +kernel
theorem d27_5 : decode prog_1_method_14_code 5 = .ok (.new 136, 3) := by decide +kernel
theorem d27_8 : decode prog_1_method_14_code 8 = .ok (.dup, 1) := by decide +kernel
theorem d27_9 : decode prog_1_method_14_code 9 = .ok (.iconst 0, 1) := by decide +kernel
theorem d27_10 : decode prog_1_method_14_code 10 = .ok (.iload_n 1, 1) := by decide +kernel
theorem d27_11 : decode prog_1_method_14_code 11 = .ok (.iconst 0, 1) := by decide +kernel
theorem d27_12 : decode prog_1_method_14_code 12 = .ok (.invokespecial 138, 3) := by decide +kernel
theorem k27_138_98 : xCa (xMo 27) 138 98 = some (2, 97, 3) := by decide +kernel
theorem d27_15 : decode prog_1_method_14_code 15 = .ok (.invokevirtual 141, 3) := by decide +kernel
theorem k27_141_10 : xCa (xMo 27) 141 10 = some (1, 23, 1) := by decide +kernel
theorem n27_141 : xcn (xMo 27) 141 = some 1 := by decide +kernel
theorem d27_18 : decode prog_1_method_14_code 18 = .ok (.ireturn, 1) := by decide +kernel
set_option maxRecDepth 100000 in
theorem q28 : xMc 28 = prog_1_method_15_code := rfl
theorem m28 : xMl 28 = 2 ∧ xMret 28 = (some FieldType.int) ∧ xMh 28 = [] := by decide +kernel
theorem e28 {X : xX} {d : Nat} {w : xH} {Q : xO → xH → Prop} (a : Nat) : Cw X d 28 [.ref a] w Q = Wx X d 28 0 [some (.ref a), none] [] w Q := by
  unfold Cw
  rw [m28.1]
  rfl
theorem d28_0 : decode prog_1_method_15_code 0 = .ok (.aload_n 0, 1) := by decide +kernel
theorem d28_1 : decode prog_1_method_15_code 1 = .ok (.getfield 12, 3) := by decide +kernel
theorem f28_12 : xFd (xMo 28) 12 = some (10, 0) := by decide +kernel
theorem d28_4 : decode prog_1_method_15_code 4 = .ok (.invokevirtual 71, 3) := by decide +kernel
theorem k28_71_8 : xCa (xMo 28) 71 8 = some (1, 143, 0) := by decide +kernel
theorem n28_71 : xcn (xMo 28) 71 = some 0 := by decide +kernel
theorem d28_7 : decode prog_1_method_15_code 7 = .ok (.ifCond .lt 13, 3) := by decide +kernel
theorem d28_10 : decode prog_1_method_15_code 10 = .ok (.new 58, 3) := by decide +kernel
theorem d28_13 : decode prog_1_method_15_code 13 = .ok (.dup, 1) := by decide +kernel
theorem d28_14 : decode prog_1_method_15_code 14 = .ok (.ldc 78, 2) := by decide +kernel
theorem d28_16 : decode prog_1_method_15_code 16 = .ok (.invokespecial 62, 3) := by decide +kernel
theorem d28_19 : decode prog_1_method_15_code 19 = .ok (.athrow, 1) := by decide +kernel
theorem d28_20 : decode prog_1_method_15_code 20 = .ok (.aload_n 0, 1) := by decide +kernel
theorem d28_21 : decode prog_1_method_15_code 21 = .ok (.getfield 36, 3) := by decide +kernel
theorem f28_36 : xFd (xMo 28) 36 = some (10, 5) := by decide +kernel
theorem d28_24 : decode prog_1_method_15_code 24 = .ok (.aload_n 0, 1) := by decide +kernel
theorem d28_25 : decode prog_1_method_15_code 25 = .ok (.getfield 19, 3) := by decide +kernel
theorem f28_19 : xFd (xMo 28) 19 = some (10, 1) := by decide +kernel
theorem d28_28 : decode prog_1_method_15_code 28 = .ok (.getfield 80, 3) := by decide +kernel
theorem f28_80 : xFd (xMo 28) 80 = some (2, 0) := by decide +kernel
theorem d28_31 : decode prog_1_method_15_code 31 = .ok (.invokevirtual 83, 3) := by decide +kernel
theorem k28_83_4 : xCa (xMo 28) 83 4 = some (1, 90, 1) := by decide +kernel
theorem n28_83 : xcn (xMo 28) 83 = some 1 := by decide +kernel
theorem d28_34 : decode prog_1_method_15_code 34 = .ok (.pop, 1) := by decide +kernel
theorem d28_35 : decode prog_1_method_15_code 35 = .ok (.iconst 0, 1) := by decide +kernel
theorem d28_36 : decode prog_1_method_15_code 36 = .ok (.istore_n 1, 1) := by decide +kernel
theorem d28_37 : decode prog_1_method_15_code 37 = .ok (.aload_n 0, 1) := by decide +kernel
theorem d28_38 : decode prog_1_method_15_code 38 = .ok (.getfield 12, 3) := by decide +kernel
theorem d28_41 : decode prog_1_method_15_code 41 = .ok (.invokevirtual 148, 3) := by decide +kernel
theorem k28_148_8 : xCa (xMo 28) 148 8 = some (1, 123, 0) := by decide +kernel
theorem n28_148 : xcn (xMo 28) 148 = some 0 := by decide +kernel
theorem d28_44 : decode prog_1_method_15_code 44 = .ok (.iload_n 1, 1) := by decide +kernel
theorem d28_45 : decode prog_1_method_15_code 45 = .ok (.bipush 60, 2) := by decide +kernel
theorem d28_47 : decode prog_1_method_15_code 47 = .ok (.if_icmp .ge 40, 3) := by decide +kernel
theorem d28_50 : decode prog_1_method_15_code 50 = .ok (.aload_n 0, 1) := by decide +kernel
theorem d28_51 : decode prog_1_method_15_code 51 = .ok (.getfield 12, 3) := by decide +kernel
theorem d28_54 : decode prog_1_method_15_code 54 = .ok (.invokevirtual 151, 3) := by decide +kernel
theorem k28_151_8 : xCa (xMo 28) 151 8 = some (1, 144, 0) := by decide +kernel
theorem n28_151 : xcn (xMo 28) 151 = some 0 := by decide +kernel
theorem d28_57 : decode prog_1_method_15_code 57 = .ok (.ifCond .eq 30, 3) := by decide +kernel
theorem d28_60 : decode prog_1_method_15_code 60 = .ok (.aload_n 0, 1) := by decide +kernel
theorem d28_61 : decode prog_1_method_15_code 61 = .ok (.getfield 19, 3) := by decide +kernel
theorem d28_64 : decode prog_1_method_15_code 64 = .ok (.getfield 80, 3) := by decide +kernel
theorem d28_67 : decode prog_1_method_15_code 67 = .ok (.aload_n 0, 1) := by decide +kernel
theorem d28_68 : decode prog_1_method_15_code 68 = .ok (.getfield 12, 3) := by decide +kernel
theorem d28_71 : decode prog_1_method_15_code 71 = .ok (.getfield 155, 3) := by decide +kernel
theorem f28_155 : xFd (xMo 28) 155 = some (8, 2) := by decide +kernel
theorem d28_74 : decode prog_1_method_15_code 74 = .ok (.aload_n 0, 1) := by decide +kernel
theorem d28_75 : decode prog_1_method_15_code 75 = .ok (.getfield 12, 3) := by decide +kernel
theorem d28_78 : decode prog_1_method_15_code 78 = .ok (.invokevirtual 87, 3) := by decide +kernel
theorem k28_87_9 : xCa (xMo 28) 87 9 = some (1, 156, 2) := by decide +kernel
theorem n28_87 : xcn (xMo 28) 87 = some 2 := by decide +kernel
theorem d28_81 : decode prog_1_method_15_code 81 = .ok (.iinc 1 1, 3) := by decide +kernel
theorem d28_84 : decode prog_1_method_15_code 84 = .ok (.goto (-40), 3) := by decide +kernel
theorem d28_87 : decode prog_1_method_15_code 87 = .ok (.aload_n 0, 1) := by decide +kernel
theorem d28_88 : decode prog_1_method_15_code 88 = .ok (.getfield 19, 3) := by decide +kernel
theorem d28_91 : decode prog_1_method_15_code 91 = .ok (.invokevirtual 121, 3) := by decide +kernel
theorem k28_121_2 : xCa (xMo 28) 121 2 = some (1, 83, 0) := by decide +kernel
theorem n28_121 : xcn (xMo 28) 121 = some 0 := by decide +kernel
theorem d28_94 : decode prog_1_method_15_code 94 = .ok (.pop, 1) := by decide +kernel
theorem d28_95 : decode prog_1_method_15_code 95 = .ok (.iload_n 1, 1) := by decide +kernel
theorem d28_96 : decode prog_1_method_15_code 96 = .ok (.ireturn, 1) := by decide +kernel
set_option maxRecDepth 100000 in
theorem q29 : xMc 29 = prog_1_method_16_code := rfl
theorem m29 : xMl 29 = 1 ∧ xMret 29 = (some FieldType.int) ∧ xMh 29 = [] := by decide +kernel
theorem e29 {X : xX} {d : Nat} {w : xH} {Q : xO → xH → Prop} (a : Nat) : Cw X d 29 [.ref a] w Q = Wx X d 29 0 [some (.ref a)] [] w Q := by
  unfold Cw
  rw [m29.1]
  rfl
theorem d29_0 : decode prog_1_method_16_code 0 = .ok (.aload_n 0, 1) := by decide +kernel
theorem d29_1 : decode prog_1_method_16_code 1 = .ok (.getfield 158, 3) := by decide +kernel
theorem f29_158 : xFd (xMo 29) 158 = some (10, 4) := by decide +kernel
theorem d29_4 : decode prog_1_method_16_code 4 = .ok (.ifCond .ne 13, 3) := by decide +kernel
theorem d29_7 : decode prog_1_method_16_code 7 = .ok (.new 58, 3) := by decide +kernel
theorem d29_10 : decode prog_1_method_16_code 10 = .ok (.dup, 1) := by decide +kernel
theorem d29_11 : decode prog_1_method_16_code 11 = .ok (.ldc 162, 2) := by decide +kernel
theorem d29_13 : decode prog_1_method_16_code 13 = .ok (.invokespecial 62, 3) := by decide +kernel
theorem d29_16 : decode prog_1_method_16_code 16 = .ok (.athrow, 1) := by decide +kernel
theorem d29_17 : decode prog_1_method_16_code 17 = .ok (.aload_n 0, 1) := by decide +kernel
theorem d29_18 : decode prog_1_method_16_code 18 = .ok (.getfield 36, 3) := by decide +kernel
theorem f29_36 : xFd (xMo 29) 36 = some (10, 5) := by decide +kernel
theorem d29_21 : decode prog_1_method_16_code 21 = .ok (.aload_n 0, 1) := by decide +kernel
theorem d29_22 : decode prog_1_method_16_code 22 = .ok (.getfield 19, 3) := by decide +kernel
theorem f29_19 : xFd (xMo 29) 19 = some (10, 1) := by decide +kernel
theorem d29_25 : decode prog_1_method_16_code 25 = .ok (.getfield 80, 3) := by decide +kernel
theorem f29_80 : xFd (xMo 29) 80 = some (2, 0) := by decide +kernel
theorem d29_28 : decode prog_1_method_16_code 28 = .ok (.invokevirtual 83, 3) := by decide +kernel
theorem k29_83_4 : xCa (xMo 29) 83 4 = some (1, 90, 1) := by decide +kernel
theorem n29_83 : xcn (xMo 29) 83 = some 1 := by decide +kernel
theorem d29_31 : decode prog_1_method_16_code 31 = .ok (.pop, 1) := by decide +kernel
theorem d29_32 : decode prog_1_method_16_code 32 = .ok (.aload_n 0, 1) := by decide +kernel
theorem d29_33 : decode prog_1_method_16_code 33 = .ok (.getfield 19, 3) := by decide +kernel
theorem d29_36 : decode prog_1_method_16_code 36 = .ok (.aload_n 0, 1) := by decide +kernel
theorem d29_37 : decode prog_1_method_16_code 37 = .ok (.getfield 29, 3) := by decide +kernel
theorem f29_29 : xFd (xMo 29) 29 = some (10, 3) := by decide +kernel
theorem d29_40 : decode prog_1_method_16_code 40 = .ok (.invokevirtual 164, 3) := by decide +kernel
theorem k29_164_2 : xCa (xMo 29) 164 2 = some (1, 84, 1) := by decide +kernel
theorem n29_164 : xcn (xMo 29) 164 = some 1 := by decide +kernel
theorem d29_43 : decode prog_1_method_16_code 43 = .ok (.aload_n 0, 1) := by decide +kernel
theorem d29_44 : decode prog_1_method_16_code 44 = .ok (.getfield 19, 3) := by decide +kernel
theorem d29_47 : decode prog_1_method_16_code 47 = .ok (.getfield 80, 3) := by decide +kernel
theorem d29_50 : decode prog_1_method_16_code 50 = .ok (.invokevirtual 168, 3) := by decide +kernel
theorem k29_168_9 : xCa (xMo 29) 168 9 = some (1, 152, 0) := by decide +kernel
theorem n29_168 : xcn (xMo 29) 168 = some 0 := by decide +kernel
theorem d29_53 : decode prog_1_method_16_code 53 = .ok (.ireturn, 1) := by decide +kernel
set_option maxRecDepth 100000 in
theorem q30 : xMc 30 = prog_1_method_18_code := rfl
theorem m30 : xMl 30 = 2 ∧ xMret 30 = (some FieldType.int) ∧ xMh 30 = [] := by decide +kernel
theorem e30 {X : xX} {d : Nat} {w : xH} {Q : xO → xH → Prop} (a : Nat) : Cw X d 30 [.ref a] w Q = Wx X d 30 0 [some (.ref a), none] [] w Q := by
  unfold Cw
  rw [m30.1]
  rfl
theorem d30_0 : decode prog_1_method_18_code 0 = .ok (.aload_n 0, 1) := by decide +kernel
theorem d30_1 : decode prog_1_method_18_code 1 = .ok (.getfield 36, 3) := by decide +kernel
theorem f30_36 : xFd (xMo 30) 36 = some (10, 5) := by decide +kernel
theorem d30_4 : decode prog_1_method_18_code 4 = .ok (.invokevirtual 174, 3) := by decide +kernel
theorem k30_174_4 : xCa (xMo 30) 174 4 = some (1, 91, 0) := by decide +kernel
theorem n30_174 : xcn (xMo 30) 174 = some 0 := by decide +kernel
theorem d30_7 : decode prog_1_method_18_code 7 = .ok (.astore_n 1, 1) := by decide +kernel
theorem d30_8 : decode prog_1_method_18_code 8 = .ok (.aload_n 1, 1) := by decide +kernel
theorem d30_9 : decode prog_1_method_18_code 9 = .ok (.ifnonnull 13, 3) := by decide +kernel
theorem d30_12 : decode prog_1_method_18_code 12 = .ok (.new 58, 3) := by decide +kernel
theorem d30_15 : decode prog_1_method_18_code 15 = .ok (.dup, 1) := by decide +kernel
theorem d30_16 : decode prog_1_method_18_code 16 = .ok (.ldc 178, 2) := by decide +kernel
theorem d30_18 : decode prog_1_method_18_code 18 = .ok (.invokespecial 62, 3) := by decide +kernel
theorem d30_21 : decode prog_1_method_18_code 21 = .ok (.athrow, 1) := by decide +kernel
theorem d30_22 : decode prog_1_method_18_code 22 = .ok (.aload_n 0, 1) := by decide +kernel
theorem d30_23 : decode prog_1_method_18_code 23 = .ok (.getfield 19, 3) := by decide +kernel
theorem f30_19 : xFd (xMo 30) 19 = some (10, 1) := by decide +kernel
theorem d30_26 : decode prog_1_method_18_code 26 = .ok (.aload_n 1, 1) := by decide +kernel
theorem d30_27 : decode prog_1_method_18_code 27 = .ok (.invokevirtual 164, 3) := by decide +kernel
theorem k30_164_2 : xCa (xMo 30) 164 2 = some (1, 84, 1) := by decide +kernel
theorem n30_164 : xcn (xMo 30) 164 = some 1 := by decide +kernel
theorem d30_30 : decode prog_1_method_18_code 30 = .ok (.aload_n 0, 1) := by decide +kernel
theorem d30_31 : decode prog_1_method_18_code 31 = .ok (.getfield 36, 3) := by decide +kernel
theorem d30_34 : decode prog_1_method_18_code 34 = .ok (.getfield 180, 3) := by decide +kernel
theorem f30_180 : xFd (xMo 30) 180 = some (4, 2) := by decide +kernel
theorem d30_37 : decode prog_1_method_18_code 37 = .ok (.ireturn, 1) := by decide +kernel
set_option maxRecDepth 100000 in
theorem q31 : xMc 31 = prog_1_method_19_code := rfl
theorem m31 : xMl 31 = 2 ∧ xMret 31 = (some FieldType.boolean) ∧ xMh 31 = [] := by decide +kernel
theorem e31 {X : xX} {d : Nat} {w : xH} {Q : xO → xH → Prop} (a : Nat) (x0 : Int32) : Cw X d 31 [.ref a, .int x0] w Q = Wx X d 31 0 [some (.ref a), some (.int x0)] [] w Q := by
  unfold Cw
  rw [m31.1]
  rfl
theorem d31_0 : decode prog_1_method_19_code 0 = .ok (.iload_n 1, 1) := by decide +kernel
theorem d31_1 : decode prog_1_method_19_code 1 = .ok (.invokestatic 74, 3) := by decide +kernel
theorem k31_74_99 : xCa (xMo 31) 74 99 = some (0, 15, 1) := by decide +kernel
theorem d31_4 : decode prog_1_method_19_code 4 = .ok (.aload_n 0, 1) := by decide +kernel
theorem d31_5 : decode prog_1_method_19_code 5 = .ok (.getfield 19, 3) := by decide +kernel
theorem f31_19 : xFd (xMo 31) 19 = some (10, 1) := by decide +kernel
theorem d31_8 : decode prog_1_method_19_code 8 = .ok (.getfield 80, 3) := by decide +kernel
theorem f31_80 : xFd (xMo 31) 80 = some (2, 0) := by decide +kernel
theorem d31_11 : decode prog_1_method_19_code 11 = .ok (.getfield 183, 3) := by decide +kernel
theorem f31_183 : xFd (xMo 31) 183 = some (9, 0) := by decide +kernel
theorem d31_14 : decode prog_1_method_19_code 14 = .ok (.iload_n 1, 1) := by decide +kernel
theorem d31_15 : decode prog_1_method_19_code 15 = .ok (.iaload, 1) := by decide +kernel
theorem d31_16 : decode prog_1_method_19_code 16 = .ok (.ifCond .ne 7, 3) := by decide +kernel
theorem d31_19 : decode prog_1_method_19_code 19 = .ok (.iconst 1, 1) := by decide +kernel
theorem d31_20 : decode prog_1_method_19_code 20 = .ok (.goto 4, 3) := by decide +kernel
theorem d31_23 : decode prog_1_method_19_code 23 = .ok (.iconst 0, 1) := by decide +kernel
theorem d31_24 : decode prog_1_method_19_code 24 = .ok (.ireturn, 1) := by decide +kernel
set_option maxRecDepth 100000 in
theorem q32 : xMc 32 = prog_1_method_20_code := rfl
theorem m32 : xMl 32 = 2 ∧ xMret 32 = (some FieldType.boolean) ∧ xMh 32 = [] := by decide +kernel
theorem e32 {X : xX} {d : Nat} {w : xH} {Q : xO → xH → Prop} (a : Nat) (x0 : Int32) : Cw X d 32 [.ref a, .int x0] w Q = Wx X d 32 0 [some (.ref a), some (.int x0)] [] w Q := by
  unfold Cw
  rw [m32.1]
  rfl
theorem d32_0 : decode prog_1_method_20_code 0 = .ok (.iload_n 1, 1) := by decide +kernel
theorem d32_1 : decode prog_1_method_20_code 1 = .ok (.invokestatic 74, 3) := by decide +kernel
theorem k32_74_99 : xCa (xMo 32) 74 99 = some (0, 15, 1) := by decide +kernel
theorem d32_4 : decode prog_1_method_20_code 4 = .ok (.aload_n 0, 1) := by decide +kernel
theorem d32_5 : decode prog_1_method_20_code 5 = .ok (.getfield 19, 3) := by decide +kernel
theorem f32_19 : xFd (xMo 32) 19 = some (10, 1) := by decide +kernel
theorem d32_8 : decode prog_1_method_20_code 8 = .ok (.getfield 80, 3) := by decide +kernel
theorem f32_80 : xFd (xMo 32) 80 = some (2, 0) := by decide +kernel
theorem d32_11 : decode prog_1_method_20_code 11 = .ok (.getfield 183, 3) := by decide +kernel
theorem f32_183 : xFd (xMo 32) 183 = some (9, 0) := by decide +kernel
theorem d32_14 : decode prog_1_method_20_code 14 = .ok (.iload_n 1, 1) := by decide +kernel
theorem d32_15 : decode prog_1_method_20_code 15 = .ok (.iaload, 1) := by decide +kernel
theorem d32_16 : decode prog_1_method_20_code 16 = .ok (.iconst 2, 1) := by decide +kernel
theorem d32_17 : decode prog_1_method_20_code 17 = .ok (.if_icmp .ne 7, 3) := by decide +kernel
theorem d32_20 : decode prog_1_method_20_code 20 = .ok (.iconst 1, 1) := by decide +kernel
theorem d32_21 : decode prog_1_method_20_code 21 = .ok (.goto 4, 3) := by decide +kernel
theorem d32_24 : decode prog_1_method_20_code 24 = .ok (.iconst 0, 1) := by decide +kernel
theorem d32_25 : decode prog_1_method_20_code 25 = .ok (.ireturn, 1) := by decide +kernel
set_option maxRecDepth 100000 in
theorem q33 : xMc 33 = prog_1_method_21_code := rfl
theorem m33 : xMl 33 = 2 ∧ xMret 33 = (some FieldType.boolean) ∧ xMh 33 = [] := by decide +kernel
theorem e33 {X : xX} {d : Nat} {w : xH} {Q : xO → xH → Prop} (a : Nat) (x0 : Int32) : Cw X d 33 [.ref a, .int x0] w Q = Wx X d 33 0 [some (.ref a), some (.int x0)] [] w Q := by
  unfold Cw
  rw [m33.1]
  rfl
theorem d33_0 : decode prog_1_method_21_code 0 = .ok (.aload_n 0, 1) := by decide +kernel
theorem d33_1 : decode prog_1_method_21_code 1 = .ok (.iload_n 1, 1) := by decide +kernel
theorem d33_2 : decode prog_1_method_21_code 2 = .ok (.iconst 0, 1) := by decide +kernel
theorem d33_3 : decode prog_1_method_21_code 3 = .ok (.invokevirtual 187, 3) := by decide +kernel
theorem k33_187_10 : xCa (xMo 33) 187 10 = some (1, 34, 2) := by decide +kernel
theorem n33_187 : xcn (xMo 33) 187 = some 2 := by decide +kernel
theorem d33_6 : decode prog_1_method_21_code 6 = .ok (.ireturn, 1) := by decide +kernel
set_option maxRecDepth 100000 in
theorem q34 : xMc 34 = prog_1_method_59_code := rfl
theorem m34 : xMl 34 = 3 ∧ xMret 34 = (some FieldType.boolean) ∧ xMh 34 = [] := by decide +kernel
theorem e34 {X : xX} {d : Nat} {w : xH} {Q : xO → xH → Prop} (a : Nat) (x0 : Int32) (x1 : Int32) : Cw X d 34 [.ref a, .int x0, .int x1] w Q = Wx X d 34 0 [some (.ref a), some (.int x0), some (.int x1)] [] w Q := by
  unfold Cw
  rw [m34.1]
  rfl
theorem d34_0 : decode prog_1_method_59_code 0 = .ok (.iload_n 1, 1) := by decide +kernel
theorem d34_1 : decode prog_1_method_59_code 1 = .ok (.invokestatic 74, 3) := by decide +kernel
theorem k34_74_99 : xCa (xMo 34) 74 99 = some (0, 15, 1) := by decide +kernel
theorem d34_4 : decode prog_1_method_59_code 4 = .ok (.aload_n 0, 1) := by decide +kernel
theorem d34_5 : decode prog_1_method_59_code 5 = .ok (.getfield 19, 3) := by decide +kernel
theorem f34_19 : xFd (xMo 34) 19 = some (10, 1) := by decide +kernel
theorem d34_8 : decode prog_1_method_59_code 8 = .ok (.getfield 80, 3) := by decide +kernel
theorem f34_80 : xFd (xMo 34) 80 = some (2, 0) := by decide +kernel
theorem d34_11 : decode prog_1_method_59_code 11 = .ok (.getfield 245, 3) := by decide +kernel
theorem f34_245 : xFd (xMo 34) 245 = some (9, 2) := by decide +kernel
theorem d34_14 : decode prog_1_method_59_code 14 = .ok (.iload_n 1, 1) := by decide +kernel
theorem d34_15 : decode prog_1_method_59_code 15 = .ok (.iaload, 1) := by decide +kernel
theorem d34_16 : decode prog_1_method_59_code 16 = .ok (.iload_n 2, 1) := by decide +kernel
theorem d34_17 : decode prog_1_method_59_code 17 = .ok (.if_icmp .ne 7, 3) := by decide +kernel
theorem d34_20 : decode prog_1_method_59_code 20 = .ok (.iconst 1, 1) := by decide +kernel
theorem d34_21 : decode prog_1_method_59_code 21 = .ok (.goto 4, 3) := by decide +kernel
theorem d34_24 : decode prog_1_method_59_code 24 = .ok (.iconst 0, 1) := by decide +kernel
theorem d34_25 : decode prog_1_method_59_code 25 = .ok (.ireturn, 1) := by decide +kernel
set_option maxRecDepth 100000 in
theorem q35 : xMc 35 = prog_1_method_22_code := rfl
theorem m35 : xMl 35 = 2 ∧ xMret 35 = (some FieldType.int) ∧ xMh 35 = [] := by decide +kernel
theorem e35 {X : xX} {d : Nat} {w : xH} {Q : xO → xH → Prop} (a : Nat) (x0 : Int32) : Cw X d 35 [.ref a, .int x0] w Q = Wx X d 35 0 [some (.ref a), some (.int x0)] [] w Q := by
  unfold Cw
  rw [m35.1]
  rfl
theorem d35_0 : decode prog_1_method_22_code 0 = .ok (.iload_n 1, 1) := by decide +kernel
theorem d35_1 : decode prog_1_method_22_code 1 = .ok (.invokestatic 74, 3) := by decide +kernel
theorem k35_74_99 : xCa (xMo 35) 74 99 = some (0, 15, 1) := by decide +kernel
theorem d35_4 : decode prog_1_method_22_code 4 = .ok (.aload_n 0, 1) := by decide +kernel
theorem d35_5 : decode prog_1_method_22_code 5 = .ok (.getfield 19, 3) := by decide +kernel
theorem f35_19 : xFd (xMo 35) 19 = some (10, 1) := by decide +kernel
theorem d35_8 : decode prog_1_method_22_code 8 = .ok (.iload_n 1, 1) := by decide +kernel
theorem d35_9 : decode prog_1_method_22_code 9 = .ok (.invokestatic 191, 3) := by decide +kernel
theorem k35_191_99 : xCa (xMo 35) 191 99 = some (0, 36, 2) := by decide +kernel
theorem d35_12 : decode prog_1_method_22_code 12 = .ok (.ireturn, 1) := by decide +kernel
set_option maxRecDepth 100000 in
theorem q36 : xMc 36 = prog_1_method_58_code := rfl
theorem m36 : xMl 36 = 2 ∧ xMret 36 = (some FieldType.int) ∧ xMh 36 = [] := by decide +kernel
theorem e36 {X : xX} {d : Nat} {w : xH} {Q : xO → xH → Prop} (x0 : Nat) (x1 : Int32) : Cw X d 36 [.ref x0, .int x1] w Q = Wx X d 36 0 [some (.ref x0), some (.int x1)] [] w Q := by
  unfold Cw
  rw [m36.1]
  rfl
theorem d36_0 : decode prog_1_method_58_code 0 = .ok (.aload_n 0, 1) := by decide +kernel
theorem d36_1 : decode prog_1_method_58_code 1 = .ok (.getfield 80, 3) := by decide +kernel
theorem f36_80 : xFd (xMo 36) 80 = some (2, 0) := by decide +kernel
theorem d36_4 : decode prog_1_method_58_code 4 = .ok (.getfield 245, 3) := by decide +kernel
theorem f36_245 : xFd (xMo 36) 245 = some (9, 2) := by decide +kernel
theorem d36_7 : decode prog_1_method_58_code 7 = .ok (.iload_n 1, 1) := by decide +kernel
theorem d36_8 : decode prog_1_method_58_code 8 = .ok (.iaload, 1) := by decide +kernel
theorem d36_9 : decode prog_1_method_58_code 9 = .ok (.ifCond .eq 14, 3) := by decide +kernel
theorem d36_12 : decode prog_1_method_58_code 12 = .ok (.new 58, 3) := by decide +kernel
theorem d36_15 : decode prog_1_method_58_code 15 = .ok (.dup, 1) := by decide +kernel
theorem d36_16 : decode prog_1_method_58_code 16 = .ok (.ldc_w 297, 3) := by decide +kernel
theorem d36_19 : decode prog_1_method_58_code 19 = .ok (.invokespecial 62, 3) := by decide +kernel
theorem d36_22 : decode prog_1_method_58_code 22 = .ok (.athrow, 1) := by decide +kernel
theorem d36_23 : decode prog_1_method_58_code 23 = .ok (.aload_n 0, 1) := by decide +kernel
theorem d36_24 : decode prog_1_method_58_code 24 = .ok (.getfield 80, 3) := by decide +kernel
theorem d36_27 : decode prog_1_method_58_code 27 = .ok (.getfield 278, 3) := by decide +kernel
theorem f36_278 : xFd (xMo 36) 278 = some (9, 1) := by decide +kernel
theorem d36_30 : decode prog_1_method_58_code 30 = .ok (.iload_n 1, 1) := by decide +kernel
theorem d36_31 : decode prog_1_method_58_code 31 = .ok (.iaload, 1) := by decide +kernel
theorem d36_32 : decode prog_1_method_58_code 32 = .ok (.ireturn, 1) := by decide +kernel
set_option maxRecDepth 100000 in
theorem q37 : xMc 37 = prog_1_method_23_code := rfl
theorem m37 : xMl 37 = 2 ∧ xMret 37 = (some FieldType.int) ∧ xMh 37 = [] := by decide +kernel
theorem e37 {X : xX} {d : Nat} {w : xH} {Q : xO → xH → Prop} (a : Nat) (x0 : Int32) : Cw X d 37 [.ref a, .int x0] w Q = Wx X d 37 0 [some (.ref a), some (.int x0)] [] w Q := by
  unfold Cw
  rw [m37.1]
  rfl
theorem d37_0 : decode prog_1_method_23_code 0 = .ok (.iload_n 1, 1) := by decide +kernel
theorem d37_1 : decode prog_1_method_23_code 1 = .ok (.invokestatic 74, 3) := by decide +kernel
theorem k37_74_99 : xCa (xMo 37) 74 99 = some (0, 15, 1) := by decide +kernel
theorem d37_4 : decode prog_1_method_23_code 4 = .ok (.aload_n 0, 1) := by decide +kernel
theorem d37_5 : decode prog_1_method_23_code 5 = .ok (.getfield 23, 3) := by decide +kernel
theorem f37_23 : xFd (xMo 37) 23 = some (10, 2) := by decide +kernel
theorem d37_8 : decode prog_1_method_23_code 8 = .ok (.aload_n 0, 1) := by decide +kernel
theorem d37_9 : decode prog_1_method_23_code 9 = .ok (.getfield 19, 3) := by decide +kernel
theorem f37_19 : xFd (xMo 37) 19 = some (10, 1) := by decide +kernel
theorem d37_12 : decode prog_1_method_23_code 12 = .ok (.getfield 80, 3) := by decide +kernel
theorem f37_80 : xFd (xMo 37) 80 = some (2, 0) := by decide +kernel
theorem d37_15 : decode prog_1_method_23_code 15 = .ok (.invokevirtual 164, 3) := by decide +kernel
theorem k37_164_2 : xCa (xMo 37) 164 2 = some (1, 84, 1) := by decide +kernel
theorem n37_164 : xcn (xMo 37) 164 = some 1 := by decide +kernel
theorem d37_18 : decode prog_1_method_23_code 18 = .ok (.aload_n 0, 1) := by decide +kernel
theorem d37_19 : decode prog_1_method_23_code 19 = .ok (.getfield 23, 3) := by decide +kernel
theorem d37_22 : decode prog_1_method_23_code 22 = .ok (.iload_n 1, 1) := by decide +kernel
theorem d37_23 : decode prog_1_method_23_code 23 = .ok (.invokevirtual 195, 3) := by decide +kernel
theorem k37_195_2 : xCa (xMo 37) 195 2 = some (1, 85, 1) := by decide +kernel
theorem n37_195 : xcn (xMo 37) 195 = some 1 := by decide +kernel
theorem d37_26 : decode prog_1_method_23_code 26 = .ok (.aload_n 0, 1) := by decide +kernel
theorem d37_27 : decode prog_1_method_23_code 27 = .ok (.getfield 23, 3) := by decide +kernel
theorem d37_30 : decode prog_1_method_23_code 30 = .ok (.iload_n 1, 1) := by decide +kernel
theorem d37_31 : decode prog_1_method_23_code 31 = .ok (.invokestatic 191, 3) := by decide +kernel
theorem k37_191_99 : xCa (xMo 37) 191 99 = some (0, 36, 2) := by decide +kernel
theorem d37_34 : decode prog_1_method_23_code 34 = .ok (.ireturn, 1) := by decide +kernel
set_option maxRecDepth 100000 in
theorem q38 : xMc 38 = prog_1_method_24_code := rfl
theorem m38 : xMl 38 = 2 ∧ xMret 38 = (some FieldType.boolean) ∧ xMh 38 = [] := by decide +kernel
theorem e38 {X : xX} {d : Nat} {w : xH} {Q : xO → xH → Prop} (a : Nat) (x0 : Int32) : Cw X d 38 [.ref a, .int x0] w Q = Wx X d 38 0 [some (.ref a), some (.int x0)] [] w Q := by
  unfold Cw
  rw [m38.1]
  rfl
theorem d38_0 : decode prog_1_method_24_code 0 = .ok (.aload_n 0, 1) := by decide +kernel
theorem d38_1 : decode prog_1_method_24_code 1 = .ok (.iload_n 1, 1) := by decide +kernel
theorem d38_2 : decode prog_1_method_24_code 2 = .ok (.iconst 1, 1) := by decide +kernel
theorem d38_3 : decode prog_1_method_24_code 3 = .ok (.invokevirtual 187, 3) := by decide +kernel
theorem k38_187_10 : xCa (xMo 38) 187 10 = some (1, 34, 2) := by decide +kernel
theorem n38_187 : xcn (xMo 38) 187 = some 2 := by decide +kernel
theorem d38_6 : decode prog_1_method_24_code 6 = .ok (.ireturn, 1) := by decide +kernel
set_option maxRecDepth 100000 in
theorem q39 : xMc 39 = prog_1_method_25_code := rfl
theorem m39 : xMl 39 = 2 ∧ xMret 39 = (some FieldType.boolean) ∧ xMh 39 = [] := by decide +kernel
theorem e39 {X : xX} {d : Nat} {w : xH} {Q : xO → xH → Prop} (a : Nat) (x0 : Int32) : Cw X d 39 [.ref a, .int x0] w Q = Wx X d 39 0 [some (.ref a), some (.int x0)] [] w Q := by
  unfold Cw
  rw [m39.1]
  rfl
theorem d39_0 : decode prog_1_method_25_code 0 = .ok (.aload_n 0, 1) := by decide +kernel
theorem d39_1 : decode prog_1_method_25_code 1 = .ok (.iload_n 1, 1) := by decide +kernel
theorem d39_2 : decode prog_1_method_25_code 2 = .ok (.iconst 2, 1) := by decide +kernel
theorem d39_3 : decode prog_1_method_25_code 3 = .ok (.invokevirtual 187, 3) := by decide +kernel
theorem k39_187_10 : xCa (xMo 39) 187 10 = some (1, 34, 2) := by decide +kernel
theorem n39_187 : xcn (xMo 39) 187 = some 2 := by decide +kernel
theorem d39_6 : decode prog_1_method_25_code 6 = .ok (.ireturn, 1) := by decide +kernel
set_option maxRecDepth 100000 in
theorem q40 : xMc 40 = prog_1_method_26_code := rfl
theorem m40 : xMl 40 = 2 ∧ xMret 40 = (some FieldType.boolean) ∧ xMh 40 = [] := by decide +kernel
theorem e40 {X : xX} {d : Nat} {w : xH} {Q : xO → xH → Prop} (a : Nat) (x0 : Int32) : Cw X d 40 [.ref a, .int x0] w Q = Wx X d 40 0 [some (.ref a), some (.int x0)] [] w Q := by
  unfold Cw
  rw [m40.1]
  rfl
theorem d40_0 : decode prog_1_method_26_code 0 = .ok (.aload_n 0, 1) := by decide +kernel
theorem d40_1 : decode prog_1_method_26_code 1 = .ok (.iload_n 1, 1) := by decide +kernel
theorem d40_2 : decode prog_1_method_26_code 2 = .ok (.iconst 3, 1) := by decide +kernel
theorem d40_3 : decode prog_1_method_26_code 3 = .ok (.invokevirtual 187, 3) := by decide +kernel
theorem k40_187_10 : xCa (xMo 40) 187 10 = some (1, 34, 2) := by decide +kernel
theorem n40_187 : xcn (xMo 40) 187 = some 2 := by decide +kernel
theorem d40_6 : decode prog_1_method_26_code 6 = .ok (.ireturn, 1) := by decide +kernel
set_option maxRecDepth 100000 in
theorem q41 : xMc 41 = prog_1_method_27_code := rfl
theorem m41 : xMl 41 = 2 ∧ xMret 41 = (some FieldType.boolean) ∧ xMh 41 = [] := by decide +kernel
theorem e41 {X : xX} {d : Nat} {w : xH} {Q : xO → xH → Prop} (a : Nat) (x0 : Int32) : Cw X d 41 [.ref a, .int x0] w Q = Wx X d 41 0 [some (.ref a), some (.int x0)] [] w Q := by
  unfold Cw
  rw [m41.1]
  rfl
theorem d41_0 : decode prog_1_method_27_code 0 = .ok (.aload_n 0, 1) := by decide +kernel
theorem d41_1 : decode prog_1_method_27_code 1 = .ok (.iload_n 1, 1) := by decide +kernel
theorem d41_2 : decode prog_1_method_27_code 2 = .ok (.iconst 4, 1) := by decide +kernel
theorem d41_3 : decode prog_1_method_27_code 3 = .ok (.invokevirtual 187, 3) := by decide +kernel
theorem k41_187_10 : xCa (xMo 41) 187 10 = some (1, 34, 2) := by decide +kernel
theorem n41_187 : xcn (xMo 41) 187 = some 2 := by decide +kernel
theorem d41_6 : decode prog_1_method_27_code 6 = .ok (.ireturn, 1) := by decide +kernel
set_option maxRecDepth 100000 in
theorem q42 : xMc 42 = prog_1_method_28_code := rfl
theorem m42 : xMl 42 = 2 ∧ xMret 42 = (some FieldType.boolean) ∧ xMh 42 = [] := by decide +kernel
theorem e42 {X : xX} {d : Nat} {w : xH} {Q : xO → xH → Prop} (a : Nat) (x0 : Int32) : Cw X d 42 [.ref a, .int x0] w Q = Wx X d 42 0 [some (.ref a), some (.int x0)] [] w Q := by
  unfold Cw
  rw [m42.1]
  rfl
theorem d42_0 : decode prog_1_method_28_code 0 = .ok (.aload_n 0, 1) := by decide +kernel
theorem d42_1 : decode prog_1_method_28_code 1 = .ok (.iload_n 1, 1) := by decide +kernel
theorem d42_2 : decode prog_1_method_28_code 2 = .ok (.iconst 5, 1) := by decide +kernel
theorem d42_3 : decode prog_1_method_28_code 3 = .ok (.invokevirtual 187, 3) := by decide +kernel
theorem k42_187_10 : xCa (xMo 42) 187 10 = some (1, 34, 2) := by decide +kernel
theorem n42_187 : xcn (xMo 42) 187 = some 2 := by decide +kernel
theorem d42_6 : decode prog_1_method_28_code 6 = .ok (.ireturn, 1) := by decide +kernel
set_option maxRecDepth 100000 in
theorem q43 : xMc 43 = prog_1_method_29_code := rfl
theorem m43 : xMl 43 = 2 ∧ xMret 43 = (some FieldType.int) ∧ xMh 43 = [] := by decide +kernel
theorem e43 {X : xX} {d : Nat} {w : xH} {Q : xO → xH → Prop} (a : Nat) (x0 : Int32) : Cw X d 43 [.ref a, .int x0] w Q = Wx X d 43 0 [some (.ref a), some (.int x0)] [] w Q := by
  unfold Cw
  rw [m43.1]
  rfl
theorem d43_0 : decode prog_1_method_29_code 0 = .ok (.iload_n 1, 1) := by decide +kernel
theorem d43_1 : decode prog_1_method_29_code 1 = .ok (.invokestatic 74, 3) := by decide +kernel
theorem k43_74_99 : xCa (xMo 43) 74 99 = some (0, 15, 1) := by decide +kernel
theorem d43_4 : decode prog_1_method_29_code 4 = .ok (.aload_n 0, 1) := by decide +kernel
theorem d43_5 : decode prog_1_method_29_code 5 = .ok (.iload_n 1, 1) := by decide +kernel
theorem d43_6 : decode prog_1_method_29_code 6 = .ok (.invokevirtual 198, 3) := by decide +kernel
theorem k43_198_10 : xCa (xMo 43) 198 10 = some (1, 44, 1) := by decide +kernel
theorem n43_198 : xcn (xMo 43) 198 = some 1 := by decide +kernel
theorem d43_9 : decode prog_1_method_29_code 9 = .ok (.aload_n 0, 1) := by decide +kernel
theorem d43_10 : decode prog_1_method_29_code 10 = .ok (.getfield 43, 3) := by decide +kernel
theorem f43_43 : xFd (xMo 43) 43 = some (10, 6) := by decide +kernel
theorem d43_13 : decode prog_1_method_29_code 13 = .ok (.invokevirtual 201, 3) := by decide +kernel
theorem k43_201_1 : xCa (xMo 43) 201 1 = some (1, 385, 0) := by decide +kernel
theorem n43_201 : xcn (xMo 43) 201 = some 0 := by decide +kernel
theorem d43_16 : decode prog_1_method_29_code 16 = .ok (.ireturn, 1) := by decide +kernel
set_option maxRecDepth 100000 in
theorem q44 : xMc 44 = prog_1_method_60_code := rfl
theorem m44 : xMl 44 = 2 ∧ xMret 44 = none ∧ xMh 44 = [] := by decide +kernel
theorem e44 {X : xX} {d : Nat} {w : xH} {Q : xO → xH → Prop} (a : Nat) (x0 : Int32) : Cw X d 44 [.ref a, .int x0] w Q = Wx X d 44 0 [some (.ref a), some (.int x0)] [] w Q := by
  unfold Cw
  rw [m44.1]
  rfl
theorem d44_0 : decode prog_1_method_60_code 0 = .ok (.aload_n 0, 1) := by decide +kernel
theorem d44_1 : decode prog_1_method_60_code 1 = .ok (.getfield 43, 3) := by decide +kernel
theorem f44_43 : xFd (xMo 44) 43 = some (10, 6) := by decide +kernel
theorem d44_4 : decode prog_1_method_60_code 4 = .ok (.iconst 0, 1) := by decide +kernel
theorem d44_5 : decode prog_1_method_60_code 5 = .ok (.invokevirtual 299, 3) := by decide +kernel
theorem k44_299_1 : xCa (xMo 44) 299 1 = some (1, 386, 1) := by decide +kernel
theorem n44_299 : xcn (xMo 44) 299 = some 1 := by decide +kernel
theorem d44_8 : decode prog_1_method_60_code 8 = .ok (.aload_n 0, 1) := by decide +kernel
theorem d44_9 : decode prog_1_method_60_code 9 = .ok (.getfield 19, 3) := by decide +kernel
theorem f44_19 : xFd (xMo 44) 19 = some (10, 1) := by decide +kernel
theorem d44_12 : decode prog_1_method_60_code 12 = .ok (.getfield 80, 3) := by decide +kernel
theorem f44_80 : xFd (xMo 44) 80 = some (2, 0) := by decide +kernel
theorem d44_15 : decode prog_1_method_60_code 15 = .ok (.iload_n 1, 1) := by decide +kernel
theorem d44_16 : decode prog_1_method_60_code 16 = .ok (.aload_n 0, 1) := by decide +kernel
theorem d44_17 : decode prog_1_method_60_code 17 = .ok (.getfield 43, 3) := by decide +kernel
theorem d44_20 : decode prog_1_method_60_code 20 = .ok (.invokevirtual 302, 3) := by decide +kernel
theorem k44_302_9 : xCa (xMo 44) 302 9 = some (1, 166, 2) := by decide +kernel
theorem n44_302 : xcn (xMo 44) 302 = some 2 := by decide +kernel
theorem d44_23 : decode prog_1_method_60_code 23 = .ok (.return_, 1) := by decide +kernel
set_option maxRecDepth 100000 in
theorem q45 : xMc 45 = prog_1_method_30_code := rfl
theorem m45 : xMl 45 = 3 ∧ xMret 45 = (some FieldType.int) ∧ xMh 45 = [] := by decide +kernel
theorem e45 {X : xX} {d : Nat} {w : xH} {Q : xO → xH → Prop} (a : Nat) (x0 : Int32) (x1 : Int32) : Cw X d 45 [.ref a, .int x0, .int x1] w Q = Wx X d 45 0 [some (.ref a), some (.int x0), some (.int x1)] [] w Q := by
  unfold Cw
  rw [m45.1]
  rfl
theorem d45_0 : decode prog_1_method_30_code 0 = .ok (.iload_n 1, 1) := by decide +kernel
theorem d45_1 : decode prog_1_method_30_code 1 = .ok (.invokestatic 74, 3) := by decide +kernel
theorem k45_74_99 : xCa (xMo 45) 74 99 = some (0, 15, 1) := by decide +kernel
theorem d45_4 : decode prog_1_method_30_code 4 = .ok (.iload_n 2, 1) := by decide +kernel
theorem d45_5 : decode prog_1_method_30_code 5 = .ok (.invokestatic 203, 3) := by decide +kernel
theorem k45_203_99 : xCa (xMo 45) 203 99 = some (0, 46, 1) := by decide +kernel
theorem d45_8 : decode prog_1_method_30_code 8 = .ok (.aload_n 0, 1) := by decide +kernel
theorem d45_9 : decode prog_1_method_30_code 9 = .ok (.iload_n 1, 1) := by decide +kernel
theorem d45_10 : decode prog_1_method_30_code 10 = .ok (.invokevirtual 198, 3) := by decide +kernel
theorem k45_198_10 : xCa (xMo 45) 198 10 = some (1, 44, 1) := by decide +kernel
theorem n45_198 : xcn (xMo 45) 198 = some 1 := by decide +kernel
theorem d45_13 : decode prog_1_method_30_code 13 = .ok (.iload_n 2, 1) := by decide +kernel
theorem d45_14 : decode prog_1_method_30_code 14 = .ok (.aload_n 0, 1) := by decide +kernel
theorem d45_15 : decode prog_1_method_30_code 15 = .ok (.getfield 43, 3) := by decide +kernel
theorem f45_43 : xFd (xMo 45) 43 = some (10, 6) := by decide +kernel
theorem d45_18 : decode prog_1_method_30_code 18 = .ok (.invokevirtual 201, 3) := by decide +kernel
theorem k45_201_1 : xCa (xMo 45) 201 1 = some (1, 385, 0) := by decide +kernel
theorem n45_201 : xcn (xMo 45) 201 = some 0 := by decide +kernel
theorem d45_21 : decode prog_1_method_30_code 21 = .ok (.if_icmp .lt 5, 3) := by decide +kernel
theorem d45_24 : decode prog_1_method_30_code 24 = .ok (.iconst (-1), 1) := by decide +kernel
theorem d45_25 : decode prog_1_method_30_code 25 = .ok (.ireturn, 1) := by decide +kernel
theorem d45_26 : decode prog_1_method_30_code 26 = .ok (.aload_n 0, 1) := by decide +kernel
theorem d45_27 : decode prog_1_method_30_code 27 = .ok (.getfield 43, 3) := by decide +kernel
theorem d45_30 : decode prog_1_method_30_code 30 = .ok (.iload_n 2, 1) := by decide +kernel
theorem d45_31 : decode prog_1_method_30_code 31 = .ok (.invokevirtual 206, 3) := by decide +kernel
theorem k45_206_1 : xCa (xMo 45) 206 1 = some (1, 384, 1) := by decide +kernel
theorem n45_206 : xcn (xMo 45) 206 = some 1 := by decide +kernel
theorem d45_34 : decode prog_1_method_30_code 34 = .ok (.ireturn, 1) := by decide +kernel
set_option maxRecDepth 100000 in
theorem q46 : xMc 46 = prog_1_method_56_code := rfl
theorem m46 : xMl 46 = 1 ∧ xMret 46 = none ∧ xMh 46 = [] := by decide +kernel
theorem e46 {X : xX} {d : Nat} {w : xH} {Q : xO → xH → Prop} (x0 : Int32) : Cw X d 46 [.int x0] w Q = Wx X d 46 0 [some (.int x0)] [] w Q := by
  unfold Cw
  rw [m46.1]
  rfl
theorem d46_0 : decode prog_1_method_56_code 0 = .ok (.iload_n 0, 1) := by decide +kernel
theorem d46_1 : decode prog_1_method_56_code 1 = .ok (.ifCond .ge 14, 3) := by decide +kernel
theorem d46_4 : decode prog_1_method_56_code 4 = .ok (.new 47, 3) := by decide +kernel
theorem d46_7 : decode prog_1_method_56_code 7 = .ok (.dup, 1) := by decide +kernel
theorem d46_8 : decode prog_1_method_56_code 8 = .ok (.ldc_w 295, 3) := by decide +kernel
theorem d46_11 : decode prog_1_method_56_code 11 = .ok (.invokespecial 51, 3) := by decide +kernel
theorem d46_14 : decode prog_1_method_56_code 14 = .ok (.athrow, 1) := by decide +kernel
theorem d46_15 : decode prog_1_method_56_code 15 = .ok (.return_, 1) := by decide +kernel
set_option maxRecDepth 100000 in
theorem q47 : xMc 47 = prog_1_method_31_code := rfl
theorem m47 : xMl 47 = 2 ∧ xMret 47 = (some FieldType.int) ∧ xMh 47 = [] := by decide +kernel
theorem e47 {X : xX} {d : Nat} {w : xH} {Q : xO → xH → Prop} (a : Nat) (x0 : Int32) : Cw X d 47 [.ref a, .int x0] w Q = Wx X d 47 0 [some (.ref a), some (.int x0)] [] w Q := by
  unfold Cw
  rw [m47.1]
  rfl
theorem d47_0 : decode prog_1_method_31_code 0 = .ok (.iload_n 1, 1) := by decide +kernel
theorem d47_1 : decode prog_1_method_31_code 1 = .ok (.invokestatic 74, 3) := by decide +kernel
theorem k47_74_99 : xCa (xMo 47) 74 99 = some (0, 15, 1) := by decide +kernel
theorem d47_4 : decode prog_1_method_31_code 4 = .ok (.aload_n 0, 1) := by decide +kernel
theorem d47_5 : decode prog_1_method_31_code 5 = .ok (.getfield 19, 3) := by decide +kernel
theorem f47_19 : xFd (xMo 47) 19 = some (10, 1) := by decide +kernel
theorem d47_8 : decode prog_1_method_31_code 8 = .ok (.getfield 210, 3) := by decide +kernel
theorem f47_210 : xFd (xMo 47) 210 = some (2, 1) := by decide +kernel
theorem d47_11 : decode prog_1_method_31_code 11 = .ok (.iload_n 1, 1) := by decide +kernel
theorem d47_12 : decode prog_1_method_31_code 12 = .ok (.invokevirtual 214, 3) := by decide +kernel
theorem k47_214_6 : xCa (xMo 47) 214 6 = some (1, 114, 1) := by decide +kernel
theorem n47_214 : xcn (xMo 47) 214 = some 1 := by decide +kernel
theorem d47_15 : decode prog_1_method_31_code 15 = .ok (.ireturn, 1) := by decide +kernel
set_option maxRecDepth 100000 in
theorem q48 : xMc 48 = prog_1_method_32_code := rfl
theorem m48 : xMl 48 = 3 ∧ xMret 48 = (some FieldType.int) ∧ xMh 48 = [] := by decide +kernel
theorem e48 {X : xX} {d : Nat} {w : xH} {Q : xO → xH → Prop} (a : Nat) (x0 : Int32) (x1 : Int32) : Cw X d 48 [.ref a, .int x0, .int x1] w Q = Wx X d 48 0 [some (.ref a), some (.int x0), some (.int x1)] [] w Q := by
  unfold Cw
  rw [m48.1]
  rfl
theorem d48_0 : decode prog_1_method_32_code 0 = .ok (.iload_n 1, 1) := by decide +kernel
theorem d48_1 : decode prog_1_method_32_code 1 = .ok (.invokestatic 74, 3) := by decide +kernel
theorem k48_74_99 : xCa (xMo 48) 74 99 = some (0, 15, 1) := by decide +kernel
theorem d48_4 : decode prog_1_method_32_code 4 = .ok (.iload_n 2, 1) := by decide +kernel
theorem d48_5 : decode prog_1_method_32_code 5 = .ok (.invokestatic 203, 3) := by decide +kernel
theorem k48_203_99 : xCa (xMo 48) 203 99 = some (0, 46, 1) := by decide +kernel
theorem d48_8 : decode prog_1_method_32_code 8 = .ok (.aload_n 0, 1) := by decide +kernel
theorem d48_9 : decode prog_1_method_32_code 9 = .ok (.getfield 19, 3) := by decide +kernel
theorem f48_19 : xFd (xMo 48) 19 = some (10, 1) := by decide +kernel
theorem d48_12 : decode prog_1_method_32_code 12 = .ok (.getfield 210, 3) := by decide +kernel
theorem f48_210 : xFd (xMo 48) 210 = some (2, 1) := by decide +kernel
theorem d48_15 : decode prog_1_method_32_code 15 = .ok (.iload_n 1, 1) := by decide +kernel
theorem d48_16 : decode prog_1_method_32_code 16 = .ok (.iload_n 2, 1) := by decide +kernel
theorem d48_17 : decode prog_1_method_32_code 17 = .ok (.invokevirtual 219, 3) := by decide +kernel
theorem k48_219_6 : xCa (xMo 48) 219 6 = some (1, 115, 2) := by decide +kernel
theorem n48_219 : xcn (xMo 48) 219 = some 2 := by decide +kernel
theorem d48_20 : decode prog_1_method_32_code 20 = .ok (.ireturn, 1) := by decide +kernel
set_option maxRecDepth 100000 in
theorem q49 : xMc 49 = prog_1_method_33_code := rfl
theorem m49 : xMl 49 = 2 ∧ xMret 49 = (some FieldType.int) ∧ xMh 49 = [] := by decide +kernel
theorem e49 {X : xX} {d : Nat} {w : xH} {Q : xO → xH → Prop} (a : Nat) (x0 : Int32) : Cw X d 49 [.ref a, .int x0] w Q = Wx X d 49 0 [some (.ref a), some (.int x0)] [] w Q := by
  unfold Cw
  rw [m49.1]
  rfl
theorem d49_0 : decode prog_1_method_33_code 0 = .ok (.iload_n 1, 1) := by decide +kernel
theorem d49_1 : decode prog_1_method_33_code 1 = .ok (.invokestatic 74, 3) := by decide +kernel
theorem k49_74_99 : xCa (xMo 49) 74 99 = some (0, 15, 1) := by decide +kernel
theorem d49_4 : decode prog_1_method_33_code 4 = .ok (.aload_n 0, 1) := by decide +kernel
theorem d49_5 : decode prog_1_method_33_code 5 = .ok (.getfield 19, 3) := by decide +kernel
theorem f49_19 : xFd (xMo 49) 19 = some (10, 1) := by decide +kernel
theorem d49_8 : decode prog_1_method_33_code 8 = .ok (.getfield 210, 3) := by decide +kernel
theorem f49_210 : xFd (xMo 49) 210 = some (2, 1) := by decide +kernel
theorem d49_11 : decode prog_1_method_33_code 11 = .ok (.iload_n 1, 1) := by decide +kernel
theorem d49_12 : decode prog_1_method_33_code 12 = .ok (.invokevirtual 223, 3) := by decide +kernel
theorem k49_223_6 : xCa (xMo 49) 223 6 = some (1, 116, 1) := by decide +kernel
theorem n49_223 : xcn (xMo 49) 223 = some 1 := by decide +kernel
theorem d49_15 : decode prog_1_method_33_code 15 = .ok (.ireturn, 1) := by decide +kernel
set_option maxRecDepth 100000 in
theorem q50 : xMc 50 = prog_1_method_34_code := rfl
theorem m50 : xMl 50 = 2 ∧ xMret 50 = (some FieldType.int) ∧ xMh 50 = [] := by decide +kernel
theorem e50 {X : xX} {d : Nat} {w : xH} {Q : xO → xH → Prop} (a : Nat) (x0 : Int32) : Cw X d 50 [.ref a, .int x0] w Q = Wx X d 50 0 [some (.ref a), some (.int x0)] [] w Q := by
  unfold Cw
  rw [m50.1]
  rfl
theorem d50_0 : decode prog_1_method_34_code 0 = .ok (.iload_n 1, 1) := by decide +kernel
theorem d50_1 : decode prog_1_method_34_code 1 = .ok (.invokestatic 74, 3) := by decide +kernel
theorem k50_74_99 : xCa (xMo 50) 74 99 = some (0, 15, 1) := by decide +kernel
theorem d50_4 : decode prog_1_method_34_code 4 = .ok (.aload_n 0, 1) := by decide +kernel
theorem d50_5 : decode prog_1_method_34_code 5 = .ok (.getfield 19, 3) := by decide +kernel
theorem f50_19 : xFd (xMo 50) 19 = some (10, 1) := by decide +kernel
theorem d50_8 : decode prog_1_method_34_code 8 = .ok (.getfield 210, 3) := by decide +kernel
theorem f50_210 : xFd (xMo 50) 210 = some (2, 1) := by decide +kernel
theorem d50_11 : decode prog_1_method_34_code 11 = .ok (.iload_n 1, 1) := by decide +kernel
theorem d50_12 : decode prog_1_method_34_code 12 = .ok (.invokevirtual 226, 3) := by decide +kernel
theorem k50_226_6 : xCa (xMo 50) 226 6 = some (1, 108, 1) := by decide +kernel
theorem n50_226 : xcn (xMo 50) 226 = some 1 := by decide +kernel
theorem d50_15 : decode prog_1_method_34_code 15 = .ok (.aload_n 0, 1) := by decide +kernel
theorem d50_16 : decode prog_1_method_34_code 16 = .ok (.getfield 19, 3) := by decide +kernel
theorem d50_19 : decode prog_1_method_34_code 19 = .ok (.getfield 210, 3) := by decide +kernel
theorem d50_22 : decode prog_1_method_34_code 22 = .ok (.invokevirtual 229, 3) := by decide +kernel
theorem k50_229_6 : xCa (xMo 50) 229 6 = some (1, 111, 0) := by decide +kernel
theorem n50_229 : xcn (xMo 50) 229 = some 0 := by decide +kernel
theorem d50_25 : decode prog_1_method_34_code 25 = .ok (.ireturn, 1) := by decide +kernel
set_option maxRecDepth 100000 in
theorem q51 : xMc 51 = prog_1_method_35_code := rfl
theorem m51 : xMl 51 = 3 ∧ xMret 51 = (some FieldType.boolean) ∧ xMh 51 = [] := by decide +kernel
theorem e51 {X : xX} {d : Nat} {w : xH} {Q : xO → xH → Prop} (a : Nat) (x0 : Int32) (x1 : Int32) : Cw X d 51 [.ref a, .int x0, .int x1] w Q = Wx X d 51 0 [some (.ref a), some (.int x0), some (.int x1)] [] w Q := by
  unfold Cw
  rw [m51.1]
  rfl
theorem d51_0 : decode prog_1_method_35_code 0 = .ok (.iload_n 1, 1) := by decide +kernel
theorem d51_1 : decode prog_1_method_35_code 1 = .ok (.invokestatic 74, 3) := by decide +kernel
theorem k51_74_99 : xCa (xMo 51) 74 99 = some (0, 15, 1) := by decide +kernel
theorem d51_4 : decode prog_1_method_35_code 4 = .ok (.iload_n 2, 1) := by decide +kernel
theorem d51_5 : decode prog_1_method_35_code 5 = .ok (.invokestatic 74, 3) := by decide +kernel
theorem d51_8 : decode prog_1_method_35_code 8 = .ok (.aload_n 0, 1) := by decide +kernel
theorem d51_9 : decode prog_1_method_35_code 9 = .ok (.getfield 19, 3) := by decide +kernel
theorem f51_19 : xFd (xMo 51) 19 = some (10, 1) := by decide +kernel
theorem d51_12 : decode prog_1_method_35_code 12 = .ok (.getfield 210, 3) := by decide +kernel
theorem f51_210 : xFd (xMo 51) 210 = some (2, 1) := by decide +kernel
theorem d51_15 : decode prog_1_method_35_code 15 = .ok (.iload_n 2, 1) := by decide +kernel
theorem d51_16 : decode prog_1_method_35_code 16 = .ok (.invokevirtual 226, 3) := by decide +kernel
theorem k51_226_6 : xCa (xMo 51) 226 6 = some (1, 108, 1) := by decide +kernel
theorem n51_226 : xcn (xMo 51) 226 = some 1 := by decide +kernel
theorem d51_19 : decode prog_1_method_35_code 19 = .ok (.aload_n 0, 1) := by decide +kernel
theorem d51_20 : decode prog_1_method_35_code 20 = .ok (.getfield 19, 3) := by decide +kernel
theorem d51_23 : decode prog_1_method_35_code 23 = .ok (.getfield 210, 3) := by decide +kernel
theorem d51_26 : decode prog_1_method_35_code 26 = .ok (.getfield 232, 3) := by decide +kernel
theorem f51_232 : xFd (xMo 51) 232 = some (6, 7) := by decide +kernel
theorem d51_29 : decode prog_1_method_35_code 29 = .ok (.iload_n 1, 1) := by decide +kernel
theorem d51_30 : decode prog_1_method_35_code 30 = .ok (.baload, 1) := by decide +kernel
theorem d51_31 : decode prog_1_method_35_code 31 = .ok (.ireturn, 1) := by decide +kernel
set_option maxRecDepth 100000 in
theorem q52 : xMc 52 = prog_1_method_36_code := rfl
theorem m52 : xMl 52 = 2 ∧ xMret 52 = (some FieldType.boolean) ∧ xMh 52 = [] := by decide +kernel
theorem e52 {X : xX} {d : Nat} {w : xH} {Q : xO → xH → Prop} (a : Nat) (x0 : Int32) : Cw X d 52 [.ref a, .int x0] w Q = Wx X d 52 0 [some (.ref a), some (.int x0)] [] w Q := by
  unfold Cw
  rw [m52.1]
  rfl
theorem d52_0 : decode prog_1_method_36_code 0 = .ok (.iload_n 1, 1) := by decide +kernel
theorem d52_1 : decode prog_1_method_36_code 1 = .ok (.invokestatic 74, 3) := by decide +kernel
theorem k52_74_99 : xCa (xMo 52) 74 99 = some (0, 15, 1) := by decide +kernel
theorem d52_4 : decode prog_1_method_36_code 4 = .ok (.aload_n 0, 1) := by decide +kernel
theorem d52_5 : decode prog_1_method_36_code 5 = .ok (.getfield 19, 3) := by decide +kernel
theorem f52_19 : xFd (xMo 52) 19 = some (10, 1) := by decide +kernel
theorem d52_8 : decode prog_1_method_36_code 8 = .ok (.getfield 210, 3) := by decide +kernel
theorem f52_210 : xFd (xMo 52) 210 = some (2, 1) := by decide +kernel
theorem d52_11 : decode prog_1_method_36_code 11 = .ok (.iload_n 1, 1) := by decide +kernel
theorem d52_12 : decode prog_1_method_36_code 12 = .ok (.invokevirtual 226, 3) := by decide +kernel
theorem k52_226_6 : xCa (xMo 52) 226 6 = some (1, 108, 1) := by decide +kernel
theorem n52_226 : xcn (xMo 52) 226 = some 1 := by decide +kernel
theorem d52_15 : decode prog_1_method_36_code 15 = .ok (.aload_n 0, 1) := by decide +kernel
theorem d52_16 : decode prog_1_method_36_code 16 = .ok (.getfield 19, 3) := by decide +kernel
theorem d52_19 : decode prog_1_method_36_code 19 = .ok (.getfield 210, 3) := by decide +kernel
theorem d52_22 : decode prog_1_method_36_code 22 = .ok (.getfield 232, 3) := by decide +kernel
theorem f52_232 : xFd (xMo 52) 232 = some (6, 7) := by decide +kernel
theorem d52_25 : decode prog_1_method_36_code 25 = .ok (.iload_n 1, 1) := by decide +kernel
theorem d52_26 : decode prog_1_method_36_code 26 = .ok (.baload, 1) := by decide +kernel
theorem d52_27 : decode prog_1_method_36_code 27 = .ok (.ireturn, 1) := by decide +kernel
set_option maxRecDepth 100000 in
theorem q53 : xMc 53 = prog_1_method_37_code := rfl
theorem m53 : xMl 53 = 2 ∧ xMret 53 = (some FieldType.int) ∧ xMh 53 = [] := by decide +kernel
theorem e53 {X : xX} {d : Nat} {w : xH} {Q : xO → xH → Prop} (a : Nat) (x0 : Int32) : Cw X d 53 [.ref a, .int x0] w Q = Wx X d 53 0 [some (.ref a), some (.int x0)] [] w Q := by
  unfold Cw
  rw [m53.1]
  rfl
theorem d53_0 : decode prog_1_method_37_code 0 = .ok (.iload_n 1, 1) := by decide +kernel
theorem d53_1 : decode prog_1_method_37_code 1 = .ok (.invokestatic 74, 3) := by decide +kernel
theorem k53_74_99 : xCa (xMo 53) 74 99 = some (0, 15, 1) := by decide +kernel
theorem d53_4 : decode prog_1_method_37_code 4 = .ok (.aload_n 0, 1) := by decide +kernel
theorem d53_5 : decode prog_1_method_37_code 5 = .ok (.getfield 19, 3) := by decide +kernel
theorem f53_19 : xFd (xMo 53) 19 = some (10, 1) := by decide +kernel
theorem d53_8 : decode prog_1_method_37_code 8 = .ok (.getfield 210, 3) := by decide +kernel
theorem f53_210 : xFd (xMo 53) 210 = some (2, 1) := by decide +kernel
theorem d53_11 : decode prog_1_method_37_code 11 = .ok (.getfield 236, 3) := by decide +kernel
theorem f53_236 : xFd (xMo 53) 236 = some (6, 5) := by decide +kernel
theorem d53_14 : decode prog_1_method_37_code 14 = .ok (.iload_n 1, 1) := by decide +kernel
theorem d53_15 : decode prog_1_method_37_code 15 = .ok (.iaload, 1) := by decide +kernel
theorem d53_16 : decode prog_1_method_37_code 16 = .ok (.ireturn, 1) := by decide +kernel
set_option maxRecDepth 100000 in
theorem q54 : xMc 54 = prog_1_method_38_code := rfl
theorem m54 : xMl 54 = 2 ∧ xMret 54 = (some FieldType.int) ∧ xMh 54 = [] := by decide +kernel
theorem e54 {X : xX} {d : Nat} {w : xH} {Q : xO → xH → Prop} (a : Nat) (x0 : Int32) : Cw X d 54 [.ref a, .int x0] w Q = Wx X d 54 0 [some (.ref a), some (.int x0)] [] w Q := by
  unfold Cw
  rw [m54.1]
  rfl
theorem d54_0 : decode prog_1_method_38_code 0 = .ok (.iload_n 1, 1) := by decide +kernel
theorem d54_1 : decode prog_1_method_38_code 1 = .ok (.invokestatic 203, 3) := by decide +kernel
theorem k54_203_99 : xCa (xMo 54) 203 99 = some (0, 46, 1) := by decide +kernel
theorem d54_4 : decode prog_1_method_38_code 4 = .ok (.iload_n 1, 1) := by decide +kernel
theorem d54_5 : decode prog_1_method_38_code 5 = .ok (.aload_n 0, 1) := by decide +kernel
theorem d54_6 : decode prog_1_method_38_code 6 = .ok (.getfield 19, 3) := by decide +kernel
theorem f54_19 : xFd (xMo 54) 19 = some (10, 1) := by decide +kernel
theorem d54_9 : decode prog_1_method_38_code 9 = .ok (.getfield 210, 3) := by decide +kernel
theorem f54_210 : xFd (xMo 54) 210 = some (2, 1) := by decide +kernel
theorem d54_12 : decode prog_1_method_38_code 12 = .ok (.getfield 239, 3) := by decide +kernel
theorem f54_239 : xFd (xMo 54) 239 = some (6, 4) := by decide +kernel
theorem d54_15 : decode prog_1_method_38_code 15 = .ok (.if_icmp .ge 18, 3) := by decide +kernel
theorem d54_18 : decode prog_1_method_38_code 18 = .ok (.aload_n 0, 1) := by decide +kernel
theorem d54_19 : decode prog_1_method_38_code 19 = .ok (.getfield 19, 3) := by decide +kernel
theorem d54_22 : decode prog_1_method_38_code 22 = .ok (.getfield 210, 3) := by decide +kernel
theorem d54_25 : decode prog_1_method_38_code 25 = .ok (.getfield 242, 3) := by decide +kernel
theorem f54_242 : xFd (xMo 54) 242 = some (6, 3) := by decide +kernel
theorem d54_28 : decode prog_1_method_38_code 28 = .ok (.iload_n 1, 1) := by decide +kernel
theorem d54_29 : decode prog_1_method_38_code 29 = .ok (.iaload, 1) := by decide +kernel
theorem d54_30 : decode prog_1_method_38_code 30 = .ok (.goto 4, 3) := by decide +kernel
theorem d54_33 : decode prog_1_method_38_code 33 = .ok (.iconst (-1), 1) := by decide +kernel
theorem d54_34 : decode prog_1_method_38_code 34 = .ok (.ireturn, 1) := by decide +kernel
set_option maxRecDepth 100000 in
theorem q55 : xMc 55 = prog_1_method_39_code := rfl
theorem m55 : xMl 55 = 2 ∧ xMret 55 = (some FieldType.int) ∧ xMh 55 = [] := by decide +kernel
theorem e55 {X : xX} {d : Nat} {w : xH} {Q : xO → xH → Prop} (a : Nat) (x0 : Int32) : Cw X d 55 [.ref a, .int x0] w Q = Wx X d 55 0 [some (.ref a), some (.int x0)] [] w Q := by
  unfold Cw
  rw [m55.1]
  rfl
theorem d55_0 : decode prog_1_method_39_code 0 = .ok (.iload_n 1, 1) := by decide +kernel
theorem d55_1 : decode prog_1_method_39_code 1 = .ok (.invokestatic 74, 3) := by decide +kernel
theorem k55_74_99 : xCa (xMo 55) 74 99 = some (0, 15, 1) := by decide +kernel
theorem d55_4 : decode prog_1_method_39_code 4 = .ok (.aload_n 0, 1) := by decide +kernel
theorem d55_5 : decode prog_1_method_39_code 5 = .ok (.getfield 19, 3) := by decide +kernel
theorem f55_19 : xFd (xMo 55) 19 = some (10, 1) := by decide +kernel
theorem d55_8 : decode prog_1_method_39_code 8 = .ok (.getfield 80, 3) := by decide +kernel
theorem f55_80 : xFd (xMo 55) 80 = some (2, 0) := by decide +kernel
theorem d55_11 : decode prog_1_method_39_code 11 = .ok (.getfield 245, 3) := by decide +kernel
theorem f55_245 : xFd (xMo 55) 245 = some (9, 2) := by decide +kernel
theorem d55_14 : decode prog_1_method_39_code 14 = .ok (.iload_n 1, 1) := by decide +kernel
theorem d55_15 : decode prog_1_method_39_code 15 = .ok (.iaload, 1) := by decide +kernel
theorem d55_16 : decode prog_1_method_39_code 16 = .ok (.iconst 5, 1) := by decide +kernel
theorem d55_17 : decode prog_1_method_39_code 17 = .ok (.if_icmp .ne 13, 3) := by decide +kernel
theorem d55_20 : decode prog_1_method_39_code 20 = .ok (.new 58, 3) := by decide +kernel
theorem d55_23 : decode prog_1_method_39_code 23 = .ok (.dup, 1) := by decide +kernel
theorem d55_24 : decode prog_1_method_39_code 24 = .ok (.ldc 248, 2) := by decide +kernel
theorem d55_26 : decode prog_1_method_39_code 26 = .ok (.invokespecial 62, 3) := by decide +kernel
theorem d55_29 : decode prog_1_method_39_code 29 = .ok (.athrow, 1) := by decide +kernel
theorem d55_30 : decode prog_1_method_39_code 30 = .ok (.aload_n 0, 1) := by decide +kernel
theorem d55_31 : decode prog_1_method_39_code 31 = .ok (.getfield 19, 3) := by decide +kernel
theorem d55_34 : decode prog_1_method_39_code 34 = .ok (.getfield 210, 3) := by decide +kernel
theorem f55_210 : xFd (xMo 55) 210 = some (2, 1) := by decide +kernel
theorem d55_37 : decode prog_1_method_39_code 37 = .ok (.iload_n 1, 1) := by decide +kernel
theorem d55_38 : decode prog_1_method_39_code 38 = .ok (.invokevirtual 250, 3) := by decide +kernel
theorem k55_250_6 : xCa (xMo 55) 250 6 = some (1, 117, 1) := by decide +kernel
theorem n55_250 : xcn (xMo 55) 250 = some 1 := by decide +kernel
theorem d55_41 : decode prog_1_method_39_code 41 = .ok (.ireturn, 1) := by decide +kernel
set_option maxRecDepth 100000 in
theorem q56 : xMc 56 = prog_1_method_45_code := rfl
theorem m56 : xMl 56 = 2 ∧ xMret 56 = (some FieldType.long) ∧ xMh 56 = [] := by decide +kernel
theorem e56 {X : xX} {d : Nat} {w : xH} {Q : xO → xH → Prop} (a : Nat) (x0 : Int32) : Cw X d 56 [.ref a, .int x0] w Q = Wx X d 56 0 [some (.ref a), some (.int x0)] [] w Q := by
  unfold Cw
  rw [m56.1]
  rfl
theorem d56_0 : decode prog_1_method_45_code 0 = .ok (.iload_n 1, 1) := by decide +kernel
theorem d56_1 : decode prog_1_method_45_code 1 = .ok (.invokestatic 145, 3) := by decide +kernel
theorem k56_145_99 : xCa (xMo 56) 145 99 = some (0, 26, 1) := by decide +kernel
theorem d56_4 : decode prog_1_method_45_code 4 = .ok (.aload_n 0, 1) := by decide +kernel
theorem d56_5 : decode prog_1_method_45_code 5 = .ok (.getfield 19, 3) := by decide +kernel
theorem f56_19 : xFd (xMo 56) 19 = some (10, 1) := by decide +kernel
theorem d56_8 : decode prog_1_method_45_code 8 = .ok (.getfield 80, 3) := by decide +kernel
theorem f56_80 : xFd (xMo 56) 80 = some (2, 0) := by decide +kernel
theorem d56_11 : decode prog_1_method_45_code 11 = .ok (.iload_n 1, 1) := by decide +kernel
theorem d56_12 : decode prog_1_method_45_code 12 = .ok (.bipush 10, 2) := by decide +kernel
theorem d56_14 : decode prog_1_method_45_code 14 = .ok (.bipush 20, 2) := by decide +kernel
theorem d56_16 : decode prog_1_method_45_code 16 = .ok (.invokevirtual 265, 3) := by decide +kernel
theorem k56_265_9 : xCa (xMo 56) 265 9 = some (1, 154, 3) := by decide +kernel
theorem n56_265 : xcn (xMo 56) 265 = some 3 := by decide +kernel
theorem d56_19 : decode prog_1_method_45_code 19 = .ok (.lreturn, 1) := by decide +kernel
set_option maxRecDepth 100000 in
theorem q57 : xMc 57 = prog_1_method_46_code := rfl
theorem m57 : xMl 57 = 2 ∧ xMret 57 = (some FieldType.long) ∧ xMh 57 = [] := by decide +kernel
theorem e57 {X : xX} {d : Nat} {w : xH} {Q : xO → xH → Prop} (a : Nat) (x0 : Int32) : Cw X d 57 [.ref a, .int x0] w Q = Wx X d 57 0 [some (.ref a), some (.int x0)] [] w Q := by
  unfold Cw
  rw [m57.1]
  rfl
theorem d57_0 : decode prog_1_method_46_code 0 = .ok (.iload_n 1, 1) := by decide +kernel
theorem d57_1 : decode prog_1_method_46_code 1 = .ok (.invokestatic 133, 3) := by decide +kernel
theorem k57_133_99 : xCa (xMo 57) 133 99 = some (0, 22, 1) := by decide +kernel
theorem d57_4 : decode prog_1_method_46_code 4 = .ok (.aload_n 0, 1) := by decide +kernel
theorem d57_5 : decode prog_1_method_46_code 5 = .ok (.getfield 19, 3) := by decide +kernel
theorem f57_19 : xFd (xMo 57) 19 = some (10, 1) := by decide +kernel
theorem d57_8 : decode prog_1_method_46_code 8 = .ok (.getfield 80, 3) := by decide +kernel
theorem f57_80 : xFd (xMo 57) 80 = some (2, 0) := by decide +kernel
theorem d57_11 : decode prog_1_method_46_code 11 = .ok (.iload_n 1, 1) := by decide +kernel
theorem d57_12 : decode prog_1_method_46_code 12 = .ok (.bipush 10, 2) := by decide +kernel
theorem d57_14 : decode prog_1_method_46_code 14 = .ok (.imul, 1) := by decide +kernel
theorem d57_15 : decode prog_1_method_46_code 15 = .ok (.iconst 1, 1) := by decide +kernel
theorem d57_16 : decode prog_1_method_46_code 16 = .ok (.bipush 10, 2) := by decide +kernel
theorem d57_18 : decode prog_1_method_46_code 18 = .ok (.invokevirtual 265, 3) := by decide +kernel
theorem k57_265_9 : xCa (xMo 57) 265 9 = some (1, 154, 3) := by decide +kernel
theorem n57_265 : xcn (xMo 57) 265 = some 3 := by decide +kernel
theorem d57_21 : decode prog_1_method_46_code 21 = .ok (.lreturn, 1) := by decide +kernel
set_option maxRecDepth 100000 in
theorem q58 : xMc 58 = prog_1_method_49_code := rfl
theorem m58 : xMl 58 = 4 ∧ xMret 58 = (some FieldType.int) ∧ xMh 58 = [] := by decide +kernel
theorem e58 {X : xX} {d : Nat} {w : xH} {Q : xO → xH → Prop} (a : Nat) (x0 : Int32) (x1 : Int32) (x2 : Int32) : Cw X d 58 [.ref a, .int x0, .int x1, .int x2] w Q = Wx X d 58 0 [some (.ref a), some (.int x0), some (.int x1), some (.int x2)] [] w Q := by
  unfold Cw
  rw [m58.1]
  rfl
theorem d58_0 : decode prog_1_method_49_code 0 = .ok (.iload_n 1, 1) := by decide +kernel
theorem d58_1 : decode prog_1_method_49_code 1 = .ok (.invokestatic 74, 3) := by decide +kernel
theorem k58_74_99 : xCa (xMo 58) 74 99 = some (0, 15, 1) := by decide +kernel
theorem d58_4 : decode prog_1_method_49_code 4 = .ok (.iload_n 2, 1) := by decide +kernel
theorem d58_5 : decode prog_1_method_49_code 5 = .ok (.invokestatic 95, 3) := by decide +kernel
theorem k58_95_99 : xCa (xMo 58) 95 99 = some (0, 17, 1) := by decide +kernel
theorem d58_8 : decode prog_1_method_49_code 8 = .ok (.iload_n 3, 1) := by decide +kernel
theorem d58_9 : decode prog_1_method_49_code 9 = .ok (.invokestatic 74, 3) := by decide +kernel
theorem d58_12 : decode prog_1_method_49_code 12 = .ok (.aload_n 0, 1) := by decide +kernel
theorem d58_13 : decode prog_1_method_49_code 13 = .ok (.iload_n 1, 1) := by decide +kernel
theorem d58_14 : decode prog_1_method_49_code 14 = .ok (.iload_n 2, 1) := by decide +kernel
theorem d58_15 : decode prog_1_method_49_code 15 = .ok (.invokevirtual 272, 3) := by decide +kernel
theorem k58_272_10 : xCa (xMo 58) 272 10 = some (1, 59, 2) := by decide +kernel
theorem n58_272 : xcn (xMo 58) 272 = some 2 := by decide +kernel
theorem d58_18 : decode prog_1_method_49_code 18 = .ok (.aload_n 0, 1) := by decide +kernel
theorem d58_19 : decode prog_1_method_49_code 19 = .ok (.getfield 23, 3) := by decide +kernel
theorem f58_23 : xFd (xMo 58) 23 = some (10, 2) := by decide +kernel
theorem d58_22 : decode prog_1_method_49_code 22 = .ok (.iload_n 3, 1) := by decide +kernel
theorem d58_23 : decode prog_1_method_49_code 23 = .ok (.invokestatic 191, 3) := by decide +kernel
theorem k58_191_99 : xCa (xMo 58) 191 99 = some (0, 36, 2) := by decide +kernel
theorem d58_26 : decode prog_1_method_49_code 26 = .ok (.ireturn, 1) := by decide +kernel
set_option maxRecDepth 100000 in
theorem q59 : xMc 59 = prog_1_method_62_code := rfl
theorem m59 : xMl 59 = 3 ∧ xMret 59 = none ∧ xMh 59 = [] := by decide +kernel
theorem e59 {X : xX} {d : Nat} {w : xH} {Q : xO → xH → Prop} (a : Nat) (x0 : Int32) (x1 : Int32) : Cw X d 59 [.ref a, .int x0, .int x1] w Q = Wx X d 59 0 [some (.ref a), some (.int x0), some (.int x1)] [] w Q := by
  unfold Cw
  rw [m59.1]
  rfl
theorem d59_0 : decode prog_1_method_62_code 0 = .ok (.aload_n 0, 1) := by decide +kernel
theorem d59_1 : decode prog_1_method_62_code 1 = .ok (.getfield 23, 3) := by decide +kernel
theorem f59_23 : xFd (xMo 59) 23 = some (10, 2) := by decide +kernel
theorem d59_4 : decode prog_1_method_62_code 4 = .ok (.getfield 80, 3) := by decide +kernel
theorem f59_80 : xFd (xMo 59) 80 = some (2, 0) := by decide +kernel
theorem d59_7 : decode prog_1_method_62_code 7 = .ok (.aload_n 0, 1) := by decide +kernel
theorem d59_8 : decode prog_1_method_62_code 8 = .ok (.getfield 19, 3) := by decide +kernel
theorem f59_19 : xFd (xMo 59) 19 = some (10, 1) := by decide +kernel
theorem d59_11 : decode prog_1_method_62_code 11 = .ok (.getfield 80, 3) := by decide +kernel
theorem d59_14 : decode prog_1_method_62_code 14 = .ok (.invokevirtual 171, 3) := by decide +kernel
theorem k59_171_9 : xCa (xMo 59) 171 9 = some (1, 149, 1) := by decide +kernel
theorem n59_171 : xcn (xMo 59) 171 = some 1 := by decide +kernel
theorem d59_17 : decode prog_1_method_62_code 17 = .ok (.aload_n 0, 1) := by decide +kernel
theorem d59_18 : decode prog_1_method_62_code 18 = .ok (.getfield 23, 3) := by decide +kernel
theorem d59_21 : decode prog_1_method_62_code 21 = .ok (.getfield 80, 3) := by decide +kernel
theorem d59_24 : decode prog_1_method_62_code 24 = .ok (.iload_n 1, 1) := by decide +kernel
theorem d59_25 : decode prog_1_method_62_code 25 = .ok (.iload_n 2, 1) := by decide +kernel
theorem d59_26 : decode prog_1_method_62_code 26 = .ok (.invokevirtual 98, 3) := by decide +kernel
theorem k59_98_9 : xCa (xMo 59) 98 9 = some (1, 159, 2) := by decide +kernel
theorem n59_98 : xcn (xMo 59) 98 = some 2 := by decide +kernel
theorem d59_29 : decode prog_1_method_62_code 29 = .ok (.aload_n 0, 1) := by decide +kernel
theorem d59_30 : decode prog_1_method_62_code 30 = .ok (.getfield 23, 3) := by decide +kernel
theorem d59_33 : decode prog_1_method_62_code 33 = .ok (.iload_n 1, 1) := by decide +kernel
theorem d59_34 : decode prog_1_method_62_code 34 = .ok (.invokevirtual 91, 3) := by decide +kernel
theorem k59_91_2 : xCa (xMo 59) 91 2 = some (1, 63, 1) := by decide +kernel
theorem n59_91 : xcn (xMo 59) 91 = some 1 := by decide +kernel
theorem d59_37 : decode prog_1_method_62_code 37 = .ok (.pop, 1) := by decide +kernel
theorem d59_38 : decode prog_1_method_62_code 38 = .ok (.return_, 1) := by decide +kernel
set_option maxRecDepth 100000 in
theorem q60 : xMc 60 = prog_1_method_50_code := rfl
theorem m60 : xMl 60 = 5 ∧ xMret 60 = (some FieldType.int) ∧ xMh 60 = [] := by decide +kernel
theorem e60 {X : xX} {d : Nat} {w : xH} {Q : xO → xH → Prop} (a : Nat) (x0 : Int32) (x1 : Int32) (x2 : Int32) : Cw X d 60 [.ref a, .int x0, .int x1, .int x2] w Q = Wx X d 60 0 [some (.ref a), some (.int x0), some (.int x1), some (.int x2), none] [] w Q := by
  unfold Cw
  rw [m60.1]
  rfl
theorem d60_0 : decode prog_1_method_50_code 0 = .ok (.iload_n 1, 1) := by decide +kernel
theorem d60_1 : decode prog_1_method_50_code 1 = .ok (.invokestatic 74, 3) := by decide +kernel
theorem k60_74_99 : xCa (xMo 60) 74 99 = some (0, 15, 1) := by decide +kernel
theorem d60_4 : decode prog_1_method_50_code 4 = .ok (.iload_n 2, 1) := by decide +kernel
theorem d60_5 : decode prog_1_method_50_code 5 = .ok (.invokestatic 74, 3) := by decide +kernel
theorem d60_8 : decode prog_1_method_50_code 8 = .ok (.aload_n 0, 1) := by decide +kernel
theorem d60_9 : decode prog_1_method_50_code 9 = .ok (.iload_n 1, 1) := by decide +kernel
theorem d60_10 : decode prog_1_method_50_code 10 = .ok (.iconst 0, 1) := by decide +kernel
theorem d60_11 : decode prog_1_method_50_code 11 = .ok (.invokevirtual 272, 3) := by decide +kernel
theorem k60_272_10 : xCa (xMo 60) 272 10 = some (1, 59, 2) := by decide +kernel
theorem n60_272 : xcn (xMo 60) 272 = some 2 := by decide +kernel
theorem d60_14 : decode prog_1_method_50_code 14 = .ok (.iconst 0, 1) := by decide +kernel
theorem d60_15 : decode prog_1_method_50_code 15 = .ok (.istore 4, 2) := by decide +kernel
theorem d60_17 : decode prog_1_method_50_code 17 = .ok (.iload 4, 2) := by decide +kernel
theorem d60_19 : decode prog_1_method_50_code 19 = .ok (.bipush 50, 2) := by decide +kernel
theorem d60_21 : decode prog_1_method_50_code 21 = .ok (.if_icmp .gt 64, 3) := by decide +kernel
theorem d60_24 : decode prog_1_method_50_code 24 = .ok (.aload_n 0, 1) := by decide +kernel
theorem d60_25 : decode prog_1_method_50_code 25 = .ok (.getfield 23, 3) := by decide +kernel
theorem f60_23 : xFd (xMo 60) 23 = some (10, 2) := by decide +kernel
theorem d60_28 : decode prog_1_method_50_code 28 = .ok (.getfield 80, 3) := by decide +kernel
theorem f60_80 : xFd (xMo 60) 80 = some (2, 0) := by decide +kernel
theorem d60_31 : decode prog_1_method_50_code 31 = .ok (.iload_n 1, 1) := by decide +kernel
theorem d60_32 : decode prog_1_method_50_code 32 = .ok (.iload 4, 2) := by decide +kernel
theorem d60_34 : decode prog_1_method_50_code 34 = .ok (.invokevirtual 98, 3) := by decide +kernel
theorem k60_98_9 : xCa (xMo 60) 98 9 = some (1, 159, 2) := by decide +kernel
theorem n60_98 : xcn (xMo 60) 98 = some 2 := by decide +kernel
theorem d60_37 : decode prog_1_method_50_code 37 = .ok (.aload_n 0, 1) := by decide +kernel
theorem d60_38 : decode prog_1_method_50_code 38 = .ok (.getfield 23, 3) := by decide +kernel
theorem d60_41 : decode prog_1_method_50_code 41 = .ok (.invokevirtual 275, 3) := by decide +kernel
theorem k60_275_2 : xCa (xMo 60) 275 2 = some (1, 64, 0) := by decide +kernel
theorem n60_275 : xcn (xMo 60) 275 = some 0 := by decide +kernel
theorem d60_44 : decode prog_1_method_50_code 44 = .ok (.pop, 1) := by decide +kernel
theorem d60_45 : decode prog_1_method_50_code 45 = .ok (.aload_n 0, 1) := by decide +kernel
theorem d60_46 : decode prog_1_method_50_code 46 = .ok (.getfield 23, 3) := by decide +kernel
theorem d60_49 : decode prog_1_method_50_code 49 = .ok (.getfield 80, 3) := by decide +kernel
theorem d60_52 : decode prog_1_method_50_code 52 = .ok (.getfield 245, 3) := by decide +kernel
theorem f60_245 : xFd (xMo 60) 245 = some (9, 2) := by decide +kernel
theorem d60_55 : decode prog_1_method_50_code 55 = .ok (.iload_n 2, 1) := by decide +kernel
theorem d60_56 : decode prog_1_method_50_code 56 = .ok (.iaload, 1) := by decide +kernel
theorem d60_57 : decode prog_1_method_50_code 57 = .ok (.ifCond .ne 22, 3) := by decide +kernel
theorem d60_60 : decode prog_1_method_50_code 60 = .ok (.aload_n 0, 1) := by decide +kernel
theorem d60_61 : decode prog_1_method_50_code 61 = .ok (.getfield 23, 3) := by decide +kernel
theorem d60_64 : decode prog_1_method_50_code 64 = .ok (.getfield 80, 3) := by decide +kernel
theorem d60_67 : decode prog_1_method_50_code 67 = .ok (.getfield 278, 3) := by decide +kernel
theorem f60_278 : xFd (xMo 60) 278 = some (9, 1) := by decide +kernel
theorem d60_70 : decode prog_1_method_50_code 70 = .ok (.iload_n 2, 1) := by decide +kernel
theorem d60_71 : decode prog_1_method_50_code 71 = .ok (.iaload, 1) := by decide +kernel
theorem d60_72 : decode prog_1_method_50_code 72 = .ok (.iload_n 3, 1) := by decide +kernel
theorem d60_73 : decode prog_1_method_50_code 73 = .ok (.if_icmp .ne 6, 3) := by decide +kernel
theorem d60_76 : decode prog_1_method_50_code 76 = .ok (.iload 4, 2) := by decide +kernel
theorem d60_78 : decode prog_1_method_50_code 78 = .ok (.ireturn, 1) := by decide +kernel
theorem d60_79 : decode prog_1_method_50_code 79 = .ok (.iinc 4 1, 3) := by decide +kernel
theorem d60_82 : decode prog_1_method_50_code 82 = .ok (.goto (-65), 3) := by decide +kernel
theorem d60_85 : decode prog_1_method_50_code 85 = .ok (.iconst (-1), 1) := by decide +kernel
theorem d60_86 : decode prog_1_method_50_code 86 = .ok (.ireturn, 1) := by decide +kernel
set_option maxRecDepth 100000 in
theorem q61 : xMc 61 = prog_1_method_51_code := rfl
theorem m61 : xMl 61 = 2 ∧ xMret 61 = (some FieldType.int) ∧ xMh 61 = [] := by decide +kernel
theorem e61 {X : xX} {d : Nat} {w : xH} {Q : xO → xH → Prop} (a : Nat) (x0 : Int32) : Cw X d 61 [.ref a, .int x0] w Q = Wx X d 61 0 [some (.ref a), some (.int x0)] [] w Q := by
  unfold Cw
  rw [m61.1]
  rfl
theorem d61_0 : decode prog_1_method_51_code 0 = .ok (.iload_n 1, 1) := by decide +kernel
theorem d61_1 : decode prog_1_method_51_code 1 = .ok (.invokestatic 74, 3) := by decide +kernel
theorem k61_74_99 : xCa (xMo 61) 74 99 = some (0, 15, 1) := by decide +kernel
theorem d61_4 : decode prog_1_method_51_code 4 = .ok (.aload_n 0, 1) := by decide +kernel
theorem d61_5 : decode prog_1_method_51_code 5 = .ok (.getfield 23, 3) := by decide +kernel
theorem f61_23 : xFd (xMo 61) 23 = some (10, 2) := by decide +kernel
theorem d61_8 : decode prog_1_method_51_code 8 = .ok (.getfield 80, 3) := by decide +kernel
theorem f61_80 : xFd (xMo 61) 80 = some (2, 0) := by decide +kernel
theorem d61_11 : decode prog_1_method_51_code 11 = .ok (.aload_n 0, 1) := by decide +kernel
theorem d61_12 : decode prog_1_method_51_code 12 = .ok (.getfield 19, 3) := by decide +kernel
theorem f61_19 : xFd (xMo 61) 19 = some (10, 1) := by decide +kernel
theorem d61_15 : decode prog_1_method_51_code 15 = .ok (.getfield 80, 3) := by decide +kernel
theorem d61_18 : decode prog_1_method_51_code 18 = .ok (.invokevirtual 171, 3) := by decide +kernel
theorem k61_171_9 : xCa (xMo 61) 171 9 = some (1, 149, 1) := by decide +kernel
theorem n61_171 : xcn (xMo 61) 171 = some 1 := by decide +kernel
theorem d61_21 : decode prog_1_method_51_code 21 = .ok (.aload_n 0, 1) := by decide +kernel
theorem d61_22 : decode prog_1_method_51_code 22 = .ok (.getfield 23, 3) := by decide +kernel
theorem d61_25 : decode prog_1_method_51_code 25 = .ok (.getfield 80, 3) := by decide +kernel
theorem d61_28 : decode prog_1_method_51_code 28 = .ok (.iload_n 1, 1) := by decide +kernel
theorem d61_29 : decode prog_1_method_51_code 29 = .ok (.invokevirtual 102, 3) := by decide +kernel
theorem k61_102_9 : xCa (xMo 61) 102 9 = some (1, 161, 1) := by decide +kernel
theorem n61_102 : xcn (xMo 61) 102 = some 1 := by decide +kernel
theorem d61_32 : decode prog_1_method_51_code 32 = .ok (.aload_n 0, 1) := by decide +kernel
theorem d61_33 : decode prog_1_method_51_code 33 = .ok (.getfield 23, 3) := by decide +kernel
theorem d61_36 : decode prog_1_method_51_code 36 = .ok (.iload_n 1, 1) := by decide +kernel
theorem d61_37 : decode prog_1_method_51_code 37 = .ok (.invokevirtual 91, 3) := by decide +kernel
theorem k61_91_2 : xCa (xMo 61) 91 2 = some (1, 63, 1) := by decide +kernel
theorem n61_91 : xcn (xMo 61) 91 = some 1 := by decide +kernel
theorem d61_40 : decode prog_1_method_51_code 40 = .ok (.pop, 1) := by decide +kernel
theorem d61_41 : decode prog_1_method_51_code 41 = .ok (.aload_n 0, 1) := by decide +kernel
theorem d61_42 : decode prog_1_method_51_code 42 = .ok (.getfield 23, 3) := by decide +kernel
theorem d61_45 : decode prog_1_method_51_code 45 = .ok (.getfield 80, 3) := by decide +kernel
theorem d61_48 : decode prog_1_method_51_code 48 = .ok (.invokevirtual 256, 3) := by decide +kernel
theorem k61_256_9 : xCa (xMo 61) 256 9 = some (1, 153, 0) := by decide +kernel
theorem n61_256 : xcn (xMo 61) 256 = some 0 := by decide +kernel
theorem d61_51 : decode prog_1_method_51_code 51 = .ok (.ireturn, 1) := by decide +kernel
end
