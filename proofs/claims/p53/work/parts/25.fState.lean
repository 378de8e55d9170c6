/-! facts of methods, written by wip/whole/mkfacts.py -/
section
set_option maxRecDepth 100000 in
theorem q86 : xMc 86 = prog_3_method_1_code := rfl
theorem m86 : xMl 86 = 3 ∧ xMret 86 = none ∧ xMh 86 = [] := by decide +kernel
theorem e86 {X : xX} {d : Nat} {w : xH} {Q : xO → xH → Prop} (a : Nat) (x0 : Int32) (x1 : Int32) : Cw X d 86 [.ref a, .int x0, .int x1] w Q = Wx X d 86 0 [some (.ref a), some (.int x0), some (.int x1)] [] w Q := by
  unfold Cw
  rw [m86.1]
  rfl
theorem d86_0 : decode prog_3_method_1_code 0 = .ok (.aload_n 0, 1) := by decide +kernel
theorem d86_1 : decode prog_3_method_1_code 1 = .ok (.invokespecial 3, 3) := by decide +kernel
theorem k86_3_98 : xCa (xMo 86) 3 98 = some (12, 146, 0) := by decide +kernel
theorem d86_4 : decode prog_3_method_1_code 4 = .ok (.aload_n 0, 1) := by decide +kernel
theorem d86_5 : decode prog_3_method_1_code 5 = .ok (.iload_n 1, 1) := by decide +kernel
theorem d86_6 : decode prog_3_method_1_code 6 = .ok (.putfield 9, 3) := by decide +kernel
theorem f86_9 : xFd (xMo 86) 9 = some (3, 0) := by decide +kernel
theorem d86_9 : decode prog_3_method_1_code 9 = .ok (.aload_n 0, 1) := by decide +kernel
theorem d86_10 : decode prog_3_method_1_code 10 = .ok (.iload_n 2, 1) := by decide +kernel
theorem d86_11 : decode prog_3_method_1_code 11 = .ok (.putfield 15, 3) := by decide +kernel
theorem f86_15 : xFd (xMo 86) 15 = some (3, 1) := by decide +kernel
theorem d86_14 : decode prog_3_method_1_code 14 = .ok (.return_, 1) := by decide +kernel
set_option maxRecDepth 100000 in
theorem q87 : xMc 87 = prog_3_method_2_code := rfl
theorem m87 : xMl 87 = 5 ∧ xMret 87 = (some FieldType.int) ∧ xMh 87 = [] := by decide +kernel
theorem e87 {X : xX} {d : Nat} {w : xH} {Q : xO → xH → Prop} (a : Nat) (x0 : Int32) : Cw X d 87 [.ref a, .int x0] w Q = Wx X d 87 0 [some (.ref a), some (.int x0), none, none, none] [] w Q := by
  unfold Cw
  rw [m87.1]
  rfl
theorem d87_0 : decode prog_3_method_2_code 0 = .ok (.iload_n 1, 1) := by decide +kernel
theorem d87_1 : decode prog_3_method_2_code 1 = .ok (.invokestatic 18, 3) := by decide +kernel
theorem k87_18_99 : xCa (xMo 87) 18 99 = some (0, 172, 1) := by decide +kernel
theorem d87_4 : decode prog_3_method_2_code 4 = .ok (.istore_n 2, 1) := by decide +kernel
theorem d87_5 : decode prog_3_method_2_code 5 = .ok (.iload_n 2, 1) := by decide +kernel
theorem d87_6 : decode prog_3_method_2_code 6 = .ok (.bipush 10, 2) := by decide +kernel
theorem d87_8 : decode prog_3_method_2_code 8 = .ok (.idiv, 1) := by decide +kernel
theorem d87_9 : decode prog_3_method_2_code 9 = .ok (.istore_n 3, 1) := by decide +kernel
theorem d87_10 : decode prog_3_method_2_code 10 = .ok (.iload_n 2, 1) := by decide +kernel
theorem d87_11 : decode prog_3_method_2_code 11 = .ok (.bipush 10, 2) := by decide +kernel
theorem d87_13 : decode prog_3_method_2_code 13 = .ok (.irem, 1) := by decide +kernel
theorem d87_14 : decode prog_3_method_2_code 14 = .ok (.istore 4, 2) := by decide +kernel
theorem d87_16 : decode prog_3_method_2_code 16 = .ok (.iload_n 1, 1) := by decide +kernel
theorem d87_17 : decode prog_3_method_2_code 17 = .ok (.sipush 512, 3) := by decide +kernel
theorem d87_20 : decode prog_3_method_2_code 20 = .ok (.iand, 1) := by decide +kernel
theorem d87_21 : decode prog_3_method_2_code 21 = .ok (.ifCond .ne 10, 3) := by decide +kernel
theorem d87_24 : decode prog_3_method_2_code 24 = .ok (.iload_n 3, 1) := by decide +kernel
theorem d87_25 : decode prog_3_method_2_code 25 = .ok (.aload_n 0, 1) := by decide +kernel
theorem d87_26 : decode prog_3_method_2_code 26 = .ok (.getfield 9, 3) := by decide +kernel
theorem f87_9 : xFd (xMo 87) 9 = some (3, 0) := by decide +kernel
theorem d87_29 : decode prog_3_method_2_code 29 = .ok (.iadd, 1) := by decide +kernel
theorem d87_30 : decode prog_3_method_2_code 30 = .ok (.istore_n 3, 1) := by decide +kernel
theorem d87_31 : decode prog_3_method_2_code 31 = .ok (.iload_n 1, 1) := by decide +kernel
theorem d87_32 : decode prog_3_method_2_code 32 = .ok (.sipush 256, 3) := by decide +kernel
theorem d87_35 : decode prog_3_method_2_code 35 = .ok (.iand, 1) := by decide +kernel
theorem d87_36 : decode prog_3_method_2_code 36 = .ok (.ifCond .ne 12, 3) := by decide +kernel
theorem d87_39 : decode prog_3_method_2_code 39 = .ok (.iload 4, 2) := by decide +kernel
theorem d87_41 : decode prog_3_method_2_code 41 = .ok (.aload_n 0, 1) := by decide +kernel
theorem d87_42 : decode prog_3_method_2_code 42 = .ok (.getfield 15, 3) := by decide +kernel
theorem f87_15 : xFd (xMo 87) 15 = some (3, 1) := by decide +kernel
theorem d87_45 : decode prog_3_method_2_code 45 = .ok (.iadd, 1) := by decide +kernel
theorem d87_46 : decode prog_3_method_2_code 46 = .ok (.istore 4, 2) := by decide +kernel
theorem d87_48 : decode prog_3_method_2_code 48 = .ok (.iload_n 3, 1) := by decide +kernel
theorem d87_49 : decode prog_3_method_2_code 49 = .ok (.ifCond .lt 21, 3) := by decide +kernel
theorem d87_52 : decode prog_3_method_2_code 52 = .ok (.iload_n 3, 1) := by decide +kernel
theorem d87_53 : decode prog_3_method_2_code 53 = .ok (.bipush 20, 2) := by decide +kernel
theorem d87_55 : decode prog_3_method_2_code 55 = .ok (.if_icmp .ge 15, 3) := by decide +kernel
theorem d87_58 : decode prog_3_method_2_code 58 = .ok (.iload 4, 2) := by decide +kernel
theorem d87_60 : decode prog_3_method_2_code 60 = .ok (.ifCond .lt 10, 3) := by decide +kernel
theorem d87_63 : decode prog_3_method_2_code 63 = .ok (.iload 4, 2) := by decide +kernel
theorem d87_65 : decode prog_3_method_2_code 65 = .ok (.bipush 10, 2) := by decide +kernel
theorem d87_67 : decode prog_3_method_2_code 67 = .ok (.if_icmp .lt 5, 3) := by decide +kernel
theorem d87_70 : decode prog_3_method_2_code 70 = .ok (.iconst (-1), 1) := by decide +kernel
theorem d87_71 : decode prog_3_method_2_code 71 = .ok (.ireturn, 1) := by decide +kernel
theorem d87_72 : decode prog_3_method_2_code 72 = .ok (.iload_n 1, 1) := by decide +kernel
theorem d87_73 : decode prog_3_method_2_code 73 = .ok (.iload_n 2, 1) := by decide +kernel
theorem d87_74 : decode prog_3_method_2_code 74 = .ok (.isub, 1) := by decide +kernel
theorem d87_75 : decode prog_3_method_2_code 75 = .ok (.bipush 10, 2) := by decide +kernel
theorem d87_77 : decode prog_3_method_2_code 77 = .ok (.iload_n 3, 1) := by decide +kernel
theorem d87_78 : decode prog_3_method_2_code 78 = .ok (.imul, 1) := by decide +kernel
theorem d87_79 : decode prog_3_method_2_code 79 = .ok (.iadd, 1) := by decide +kernel
theorem d87_80 : decode prog_3_method_2_code 80 = .ok (.iload 4, 2) := by decide +kernel
theorem d87_82 : decode prog_3_method_2_code 82 = .ok (.iadd, 1) := by decide +kernel
theorem d87_83 : decode prog_3_method_2_code 83 = .ok (.ireturn, 1) := by decide +kernel
set_option maxRecDepth 100000 in
theorem q88 : xMc 88 = prog_3_method_3_code := rfl
theorem m88 : xMl 88 = 3 ∧ xMret 88 = (some FieldType.int) ∧ xMh 88 = [] := by decide +kernel
theorem e88 {X : xX} {d : Nat} {w : xH} {Q : xO → xH → Prop} (a : Nat) (x0 : Int32) (x1 : Int32) : Cw X d 88 [.ref a, .int x0, .int x1] w Q = Wx X d 88 0 [some (.ref a), some (.int x0), some (.int x1)] [] w Q := by
  unfold Cw
  rw [m88.1]
  rfl
theorem d88_0 : decode prog_3_method_3_code 0 = .ok (.aload_n 0, 1) := by decide +kernel
theorem d88_1 : decode prog_3_method_3_code 1 = .ok (.iload_n 1, 1) := by decide +kernel
theorem d88_2 : decode prog_3_method_3_code 2 = .ok (.invokevirtual 24, 3) := by decide +kernel
theorem k88_24_3 : xCa (xMo 88) 24 3 = some (1, 87, 1) := by decide +kernel
theorem n88_24 : xcn (xMo 88) 24 = some 1 := by decide +kernel
theorem d88_5 : decode prog_3_method_3_code 5 = .ok (.ireturn, 1) := by decide +kernel
set_option maxRecDepth 100000 in
theorem q89 : xMc 89 = prog_4_method_1_code := rfl
theorem m89 : xMl 89 = 2 ∧ xMret 89 = none ∧ xMh 89 = [] := by decide +kernel
theorem e89 {X : xX} {d : Nat} {w : xH} {Q : xO → xH → Prop} (a : Nat) : Cw X d 89 [.ref a] w Q = Wx X d 89 0 [some (.ref a), none] [] w Q := by
  unfold Cw
  rw [m89.1]
  rfl
theorem d89_0 : decode prog_4_method_1_code 0 = .ok (.aload_n 0, 1) := by decide +kernel
theorem d89_1 : decode prog_4_method_1_code 1 = .ok (.invokespecial 1, 3) := by decide +kernel
theorem d89_4 : decode prog_4_method_1_code 4 = .ok (.aload_n 0, 1) := by decide +kernel
theorem d89_5 : decode prog_4_method_1_code 5 = .ok (.iconst 4, 1) := by decide +kernel
theorem d89_6 : decode prog_4_method_1_code 6 = .ok (.anewarray 9, 3) := by decide +kernel
theorem d89_9 : decode prog_4_method_1_code 9 = .ok (.putfield 11, 3) := by decide +kernel
theorem f89_11 : xFd (xMo 89) 11 = some (4, 0) := by decide +kernel
theorem d89_12 : decode prog_4_method_1_code 12 = .ok (.iconst 0, 1) := by decide +kernel
theorem d89_13 : decode prog_4_method_1_code 13 = .ok (.istore_n 1, 1) := by decide +kernel
theorem d89_14 : decode prog_4_method_1_code 14 = .ok (.iload_n 1, 1) := by decide +kernel
theorem d89_15 : decode prog_4_method_1_code 15 = .ok (.iconst 4, 1) := by decide +kernel
theorem d89_16 : decode prog_4_method_1_code 16 = .ok (.if_icmp .ge 22, 3) := by decide +kernel
theorem d89_19 : decode prog_4_method_1_code 19 = .ok (.aload_n 0, 1) := by decide +kernel
theorem d89_20 : decode prog_4_method_1_code 20 = .ok (.getfield 11, 3) := by decide +kernel
theorem d89_23 : decode prog_4_method_1_code 23 = .ok (.iload_n 1, 1) := by decide +kernel
theorem d89_24 : decode prog_4_method_1_code 24 = .ok (.new 9, 3) := by decide +kernel
theorem d89_27 : decode prog_4_method_1_code 27 = .ok (.dup, 1) := by decide +kernel
theorem d89_28 : decode prog_4_method_1_code 28 = .ok (.invokespecial 15, 3) := by decide +kernel
theorem k89_15_98 : xCa (xMo 89) 15 98 = some (12, 148, 0) := by decide +kernel
theorem d89_31 : decode prog_4_method_1_code 31 = .ok (.aastore, 1) := by decide +kernel
theorem d89_32 : decode prog_4_method_1_code 32 = .ok (.iinc 1 1, 3) := by decide +kernel
theorem d89_35 : decode prog_4_method_1_code 35 = .ok (.goto (-21), 3) := by decide +kernel
theorem d89_38 : decode prog_4_method_1_code 38 = .ok (.return_, 1) := by decide +kernel
set_option maxRecDepth 100000 in
theorem q90 : xMc 90 = prog_4_method_2_code := rfl
theorem m90 : xMl 90 = 3 ∧ xMret 90 = (some (FieldType.object "CalculatedSheet$State")) ∧ xMh 90 = [] := by decide +kernel
theorem e90 {X : xX} {d : Nat} {w : xH} {Q : xO → xH → Prop} (a : Nat) (x0 : Nat) : Cw X d 90 [.ref a, .ref x0] w Q = Wx X d 90 0 [some (.ref a), some (.ref x0), none] [] w Q := by
  unfold Cw
  rw [m90.1]
  rfl
theorem d90_0 : decode prog_4_method_2_code 0 = .ok (.aload_n 0, 1) := by decide +kernel
theorem d90_1 : decode prog_4_method_2_code 1 = .ok (.aload_n 0, 1) := by decide +kernel
theorem d90_2 : decode prog_4_method_2_code 2 = .ok (.getfield 16, 3) := by decide +kernel
theorem f90_16 : xFd (xMo 90) 16 = some (4, 1) := by decide +kernel
theorem d90_5 : decode prog_4_method_2_code 5 = .ok (.iconst 1, 1) := by decide +kernel
theorem d90_6 : decode prog_4_method_2_code 6 = .ok (.iadd, 1) := by decide +kernel
theorem d90_7 : decode prog_4_method_2_code 7 = .ok (.iconst 4, 1) := by decide +kernel
theorem d90_8 : decode prog_4_method_2_code 8 = .ok (.irem, 1) := by decide +kernel
theorem d90_9 : decode prog_4_method_2_code 9 = .ok (.putfield 16, 3) := by decide +kernel
theorem d90_12 : decode prog_4_method_2_code 12 = .ok (.aload_n 0, 1) := by decide +kernel
theorem d90_13 : decode prog_4_method_2_code 13 = .ok (.getfield 11, 3) := by decide +kernel
theorem f90_11 : xFd (xMo 90) 11 = some (4, 0) := by decide +kernel
theorem d90_16 : decode prog_4_method_2_code 16 = .ok (.aload_n 0, 1) := by decide +kernel
theorem d90_17 : decode prog_4_method_2_code 17 = .ok (.getfield 16, 3) := by decide +kernel
theorem d90_20 : decode prog_4_method_2_code 20 = .ok (.aaload, 1) := by decide +kernel
theorem d90_21 : decode prog_4_method_2_code 21 = .ok (.astore_n 2, 1) := by decide +kernel
theorem d90_22 : decode prog_4_method_2_code 22 = .ok (.aload_n 2, 1) := by decide +kernel
theorem d90_23 : decode prog_4_method_2_code 23 = .ok (.ifnonnull 5, 3) := by decide +kernel
theorem d90_26 : decode prog_4_method_2_code 26 = .ok (.aload_n 1, 1) := by decide +kernel
theorem d90_27 : decode prog_4_method_2_code 27 = .ok (.areturn, 1) := by decide +kernel
theorem d90_28 : decode prog_4_method_2_code 28 = .ok (.aload_n 2, 1) := by decide +kernel
theorem d90_29 : decode prog_4_method_2_code 29 = .ok (.aload_n 1, 1) := by decide +kernel
theorem d90_30 : decode prog_4_method_2_code 30 = .ok (.invokevirtual 20, 3) := by decide +kernel
theorem k90_20_9 : xCa (xMo 90) 20 9 = some (1, 149, 1) := by decide +kernel
theorem n90_20 : xcn (xMo 90) 20 = some 1 := by decide +kernel
theorem d90_33 : decode prog_4_method_2_code 33 = .ok (.aload_n 0, 1) := by decide +kernel
theorem d90_34 : decode prog_4_method_2_code 34 = .ok (.aload_n 0, 1) := by decide +kernel
theorem d90_35 : decode prog_4_method_2_code 35 = .ok (.getfield 24, 3) := by decide +kernel
theorem f90_24 : xFd (xMo 90) 24 = some (4, 2) := by decide +kernel
theorem d90_38 : decode prog_4_method_2_code 38 = .ok (.iconst 1, 1) := by decide +kernel
theorem d90_39 : decode prog_4_method_2_code 39 = .ok (.iadd, 1) := by decide +kernel
theorem d90_40 : decode prog_4_method_2_code 40 = .ok (.iconst 4, 1) := by decide +kernel
theorem d90_41 : decode prog_4_method_2_code 41 = .ok (.invokestatic 27, 3) := by decide +kernel
theorem k90_27_99 : xCa (xMo 90) 27 99 = some (0, 409, 2) := by decide +kernel
theorem d90_44 : decode prog_4_method_2_code 44 = .ok (.putfield 24, 3) := by decide +kernel
theorem d90_47 : decode prog_4_method_2_code 47 = .ok (.aload_n 2, 1) := by decide +kernel
theorem d90_48 : decode prog_4_method_2_code 48 = .ok (.areturn, 1) := by decide +kernel
set_option maxRecDepth 100000 in
theorem q91 : xMc 91 = prog_4_method_3_code := rfl
theorem m91 : xMl 91 = 2 ∧ xMret 91 = (some (FieldType.object "CalculatedSheet$State")) ∧ xMh 91 = [] := by decide +kernel
theorem e91 {X : xX} {d : Nat} {w : xH} {Q : xO → xH → Prop} (a : Nat) : Cw X d 91 [.ref a] w Q = Wx X d 91 0 [some (.ref a), none] [] w Q := by
  unfold Cw
  rw [m91.1]
  rfl
theorem d91_0 : decode prog_4_method_3_code 0 = .ok (.aload_n 0, 1) := by decide +kernel
theorem d91_1 : decode prog_4_method_3_code 1 = .ok (.getfield 24, 3) := by decide +kernel
theorem f91_24 : xFd (xMo 91) 24 = some (4, 2) := by decide +kernel
theorem d91_4 : decode prog_4_method_3_code 4 = .ok (.iconst 1, 1) := by decide +kernel
theorem d91_5 : decode prog_4_method_3_code 5 = .ok (.if_icmp .ge 5, 3) := by decide +kernel
theorem d91_8 : decode prog_4_method_3_code 8 = .ok (.aconst_null, 1) := by decide +kernel
theorem d91_9 : decode prog_4_method_3_code 9 = .ok (.areturn, 1) := by decide +kernel
theorem d91_10 : decode prog_4_method_3_code 10 = .ok (.aload_n 0, 1) := by decide +kernel
theorem d91_11 : decode prog_4_method_3_code 11 = .ok (.getfield 11, 3) := by decide +kernel
theorem f91_11 : xFd (xMo 91) 11 = some (4, 0) := by decide +kernel
theorem d91_14 : decode prog_4_method_3_code 14 = .ok (.aload_n 0, 1) := by decide +kernel
theorem d91_15 : decode prog_4_method_3_code 15 = .ok (.getfield 16, 3) := by decide +kernel
theorem f91_16 : xFd (xMo 91) 16 = some (4, 1) := by decide +kernel
theorem d91_18 : decode prog_4_method_3_code 18 = .ok (.aaload, 1) := by decide +kernel
theorem d91_19 : decode prog_4_method_3_code 19 = .ok (.astore_n 1, 1) := by decide +kernel
theorem d91_20 : decode prog_4_method_3_code 20 = .ok (.aload_n 0, 1) := by decide +kernel
theorem d91_21 : decode prog_4_method_3_code 21 = .ok (.dup, 1) := by decide +kernel
theorem d91_22 : decode prog_4_method_3_code 22 = .ok (.getfield 24, 3) := by decide +kernel
theorem d91_25 : decode prog_4_method_3_code 25 = .ok (.iconst 1, 1) := by decide +kernel
theorem d91_26 : decode prog_4_method_3_code 26 = .ok (.isub, 1) := by decide +kernel
theorem d91_27 : decode prog_4_method_3_code 27 = .ok (.putfield 24, 3) := by decide +kernel
theorem d91_30 : decode prog_4_method_3_code 30 = .ok (.aload_n 0, 1) := by decide +kernel
theorem d91_31 : decode prog_4_method_3_code 31 = .ok (.aload_n 0, 1) := by decide +kernel
theorem d91_32 : decode prog_4_method_3_code 32 = .ok (.getfield 16, 3) := by decide +kernel
theorem d91_35 : decode prog_4_method_3_code 35 = .ok (.iconst 4, 1) := by decide +kernel
theorem d91_36 : decode prog_4_method_3_code 36 = .ok (.iadd, 1) := by decide +kernel
theorem d91_37 : decode prog_4_method_3_code 37 = .ok (.iconst 1, 1) := by decide +kernel
theorem d91_38 : decode prog_4_method_3_code 38 = .ok (.isub, 1) := by decide +kernel
theorem d91_39 : decode prog_4_method_3_code 39 = .ok (.iconst 4, 1) := by decide +kernel
theorem d91_40 : decode prog_4_method_3_code 40 = .ok (.irem, 1) := by decide +kernel
theorem d91_41 : decode prog_4_method_3_code 41 = .ok (.putfield 16, 3) := by decide +kernel
theorem d91_44 : decode prog_4_method_3_code 44 = .ok (.aload_n 1, 1) := by decide +kernel
theorem d91_45 : decode prog_4_method_3_code 45 = .ok (.areturn, 1) := by decide +kernel
set_option maxRecDepth 100000 in
theorem q92 : xMc 92 = prog_5_method_6_code := rfl
theorem m92 : xMl 92 = 3 ∧ xMret 92 = (some FieldType.int) ∧ xMh 92 = [] := by decide +kernel
theorem e92 {X : xX} {d : Nat} {w : xH} {Q : xO → xH → Prop} (a : Nat) (x0 : Int32) : Cw X d 92 [.ref a, .int x0] w Q = Wx X d 92 0 [some (.ref a), some (.int x0), none] [] w Q := by
  unfold Cw
  rw [m92.1]
  rfl
theorem d92_0 : decode prog_5_method_6_code 0 = .ok (.aload_n 0, 1) := by decide +kernel
theorem d92_1 : decode prog_5_method_6_code 1 = .ok (.iload_n 1, 1) := by decide +kernel
theorem d92_2 : decode prog_5_method_6_code 2 = .ok (.invokestatic 33, 3) := by decide +kernel
theorem k92_33_99 : xCa (xMo 92) 33 99 = some (0, 172, 1) := by decide +kernel
theorem d92_5 : decode prog_5_method_6_code 5 = .ok (.invokevirtual 22, 3) := by decide +kernel
theorem k92_22_5 : xCa (xMo 92) 22 5 = some (1, 93, 1) := by decide +kernel
theorem n92_22 : xcn (xMo 92) 22 = some 1 := by decide +kernel
theorem d92_8 : decode prog_5_method_6_code 8 = .ok (.istore_n 2, 1) := by decide +kernel
theorem d92_9 : decode prog_5_method_6_code 9 = .ok (.iload_n 2, 1) := by decide +kernel
theorem d92_10 : decode prog_5_method_6_code 10 = .ok (.aload_n 0, 1) := by decide +kernel
theorem d92_11 : decode prog_5_method_6_code 11 = .ok (.getfield 15, 3) := by decide +kernel
theorem f92_15 : xFd (xMo 92) 15 = some (5, 1) := by decide +kernel
theorem d92_14 : decode prog_5_method_6_code 14 = .ok (.if_icmp .ge 5, 3) := by decide +kernel
theorem d92_17 : decode prog_5_method_6_code 17 = .ok (.iload_n 1, 1) := by decide +kernel
theorem d92_18 : decode prog_5_method_6_code 18 = .ok (.ireturn, 1) := by decide +kernel
theorem d92_19 : decode prog_5_method_6_code 19 = .ok (.aload_n 0, 1) := by decide +kernel
theorem d92_20 : decode prog_5_method_6_code 20 = .ok (.getfield 19, 3) := by decide +kernel
theorem f92_19 : xFd (xMo 92) 19 = some (5, 2) := by decide +kernel
theorem d92_23 : decode prog_5_method_6_code 23 = .ok (.ifCond .eq 22, 3) := by decide +kernel
theorem d92_26 : decode prog_5_method_6_code 26 = .ok (.iload_n 2, 1) := by decide +kernel
theorem d92_27 : decode prog_5_method_6_code 27 = .ok (.aload_n 0, 1) := by decide +kernel
theorem d92_28 : decode prog_5_method_6_code 28 = .ok (.invokevirtual 30, 3) := by decide +kernel
theorem k92_30_5 : xCa (xMo 92) 30 5 = some (1, 94, 0) := by decide +kernel
theorem n92_30 : xcn (xMo 92) 30 = some 0 := by decide +kernel
theorem d92_31 : decode prog_5_method_6_code 31 = .ok (.if_icmp .ne 7, 3) := by decide +kernel
theorem d92_34 : decode prog_5_method_6_code 34 = .ok (.iconst (-1), 1) := by decide +kernel
theorem d92_35 : decode prog_5_method_6_code 35 = .ok (.goto 9, 3) := by decide +kernel
theorem d92_38 : decode prog_5_method_6_code 38 = .ok (.iload_n 1, 1) := by decide +kernel
theorem d92_39 : decode prog_5_method_6_code 39 = .ok (.aload_n 0, 1) := by decide +kernel
theorem d92_40 : decode prog_5_method_6_code 40 = .ok (.invokevirtual 26, 3) := by decide +kernel
theorem k92_26_5 : xCa (xMo 92) 26 5 = some (1, 95, 0) := by decide +kernel
theorem n92_26 : xcn (xMo 92) 26 = some 0 := by decide +kernel
theorem d92_43 : decode prog_5_method_6_code 43 = .ok (.iadd, 1) := by decide +kernel
theorem d92_44 : decode prog_5_method_6_code 44 = .ok (.ireturn, 1) := by decide +kernel
theorem d92_45 : decode prog_5_method_6_code 45 = .ok (.iload_n 2, 1) := by decide +kernel
theorem d92_46 : decode prog_5_method_6_code 46 = .ok (.aload_n 0, 1) := by decide +kernel
theorem d92_47 : decode prog_5_method_6_code 47 = .ok (.getfield 15, 3) := by decide +kernel
theorem d92_50 : decode prog_5_method_6_code 50 = .ok (.if_icmp .ne 7, 3) := by decide +kernel
theorem d92_53 : decode prog_5_method_6_code 53 = .ok (.iconst (-1), 1) := by decide +kernel
theorem d92_54 : decode prog_5_method_6_code 54 = .ok (.goto 9, 3) := by decide +kernel
theorem d92_57 : decode prog_5_method_6_code 57 = .ok (.iload_n 1, 1) := by decide +kernel
theorem d92_58 : decode prog_5_method_6_code 58 = .ok (.aload_n 0, 1) := by decide +kernel
theorem d92_59 : decode prog_5_method_6_code 59 = .ok (.invokevirtual 26, 3) := by decide +kernel
theorem d92_62 : decode prog_5_method_6_code 62 = .ok (.isub, 1) := by decide +kernel
theorem d92_63 : decode prog_5_method_6_code 63 = .ok (.ireturn, 1) := by decide +kernel
set_option maxRecDepth 100000 in
theorem q93 : xMc 93 = prog_5_method_2_code := rfl
theorem m93 : xMl 93 = 2 ∧ xMret 93 = (some FieldType.int) ∧ xMh 93 = [] := by decide +kernel
theorem e93 {X : xX} {d : Nat} {w : xH} {Q : xO → xH → Prop} (a : Nat) (x0 : Int32) : Cw X d 93 [.ref a, .int x0] w Q = Wx X d 93 0 [some (.ref a), some (.int x0)] [] w Q := by
  unfold Cw
  rw [m93.1]
  rfl
theorem d93_0 : decode prog_5_method_2_code 0 = .ok (.aload_n 0, 1) := by decide +kernel
theorem d93_1 : decode prog_5_method_2_code 1 = .ok (.getfield 9, 3) := by decide +kernel
theorem f93_9 : xFd (xMo 93) 9 = some (5, 0) := by decide +kernel
theorem d93_4 : decode prog_5_method_2_code 4 = .ok (.ifCond .eq 10, 3) := by decide +kernel
theorem d93_7 : decode prog_5_method_2_code 7 = .ok (.iload_n 1, 1) := by decide +kernel
theorem d93_8 : decode prog_5_method_2_code 8 = .ok (.bipush 10, 2) := by decide +kernel
theorem d93_10 : decode prog_5_method_2_code 10 = .ok (.idiv, 1) := by decide +kernel
theorem d93_11 : decode prog_5_method_2_code 11 = .ok (.goto 7, 3) := by decide +kernel
theorem d93_14 : decode prog_5_method_2_code 14 = .ok (.iload_n 1, 1) := by decide +kernel
theorem d93_15 : decode prog_5_method_2_code 15 = .ok (.bipush 10, 2) := by decide +kernel
theorem d93_17 : decode prog_5_method_2_code 17 = .ok (.irem, 1) := by decide +kernel
theorem d93_18 : decode prog_5_method_2_code 18 = .ok (.ireturn, 1) := by decide +kernel
set_option maxRecDepth 100000 in
theorem q94 : xMc 94 = prog_5_method_3_code := rfl
theorem m94 : xMl 94 = 1 ∧ xMret 94 = (some FieldType.int) ∧ xMh 94 = [] := by decide +kernel
theorem e94 {X : xX} {d : Nat} {w : xH} {Q : xO → xH → Prop} (a : Nat) : Cw X d 94 [.ref a] w Q = Wx X d 94 0 [some (.ref a)] [] w Q := by
  unfold Cw
  rw [m94.1]
  rfl
theorem d94_0 : decode prog_5_method_3_code 0 = .ok (.aload_n 0, 1) := by decide +kernel
theorem d94_1 : decode prog_5_method_3_code 1 = .ok (.getfield 9, 3) := by decide +kernel
theorem f94_9 : xFd (xMo 94) 9 = some (5, 0) := by decide +kernel
theorem d94_4 : decode prog_5_method_3_code 4 = .ok (.ifCond .eq 8, 3) := by decide +kernel
theorem d94_7 : decode prog_5_method_3_code 7 = .ok (.bipush 19, 2) := by decide +kernel
theorem d94_9 : decode prog_5_method_3_code 9 = .ok (.goto 5, 3) := by decide +kernel
theorem d94_12 : decode prog_5_method_3_code 12 = .ok (.bipush 9, 2) := by decide +kernel
theorem d94_14 : decode prog_5_method_3_code 14 = .ok (.ireturn, 1) := by decide +kernel
set_option maxRecDepth 100000 in
theorem q95 : xMc 95 = prog_5_method_4_code := rfl
theorem m95 : xMl 95 = 1 ∧ xMret 95 = (some FieldType.int) ∧ xMh 95 = [] := by decide +kernel
theorem e95 {X : xX} {d : Nat} {w : xH} {Q : xO → xH → Prop} (a : Nat) : Cw X d 95 [.ref a] w Q = Wx X d 95 0 [some (.ref a)] [] w Q := by
  unfold Cw
  rw [m95.1]
  rfl
theorem d95_0 : decode prog_5_method_4_code 0 = .ok (.aload_n 0, 1) := by decide +kernel
theorem d95_1 : decode prog_5_method_4_code 1 = .ok (.getfield 9, 3) := by decide +kernel
theorem f95_9 : xFd (xMo 95) 9 = some (5, 0) := by decide +kernel
theorem d95_4 : decode prog_5_method_4_code 4 = .ok (.ifCond .eq 8, 3) := by decide +kernel
theorem d95_7 : decode prog_5_method_4_code 7 = .ok (.bipush 10, 2) := by decide +kernel
theorem d95_9 : decode prog_5_method_4_code 9 = .ok (.goto 4, 3) := by decide +kernel
theorem d95_12 : decode prog_5_method_4_code 12 = .ok (.iconst 1, 1) := by decide +kernel
theorem d95_13 : decode prog_5_method_4_code 13 = .ok (.ireturn, 1) := by decide +kernel
set_option maxRecDepth 100000 in
theorem q96 : xMc 96 = prog_5_method_7_code := rfl
theorem m96 : xMl 96 = 5 ∧ xMret 96 = (some FieldType.int) ∧ xMh 96 = [] := by decide +kernel
theorem e96 {X : xX} {d : Nat} {w : xH} {Q : xO → xH → Prop} (a : Nat) (x0 : Int32) (x1 : Int32) : Cw X d 96 [.ref a, .int x0, .int x1] w Q = Wx X d 96 0 [some (.ref a), some (.int x0), some (.int x1), none, none] [] w Q := by
  unfold Cw
  rw [m96.1]
  rfl
theorem d96_0 : decode prog_5_method_7_code 0 = .ok (.aload_n 0, 1) := by decide +kernel
theorem d96_1 : decode prog_5_method_7_code 1 = .ok (.iload_n 1, 1) := by decide +kernel
theorem d96_2 : decode prog_5_method_7_code 2 = .ok (.invokestatic 33, 3) := by decide +kernel
theorem k96_33_99 : xCa (xMo 96) 33 99 = some (0, 172, 1) := by decide +kernel
theorem d96_5 : decode prog_5_method_7_code 5 = .ok (.invokevirtual 22, 3) := by decide +kernel
theorem k96_22_5 : xCa (xMo 96) 22 5 = some (1, 93, 1) := by decide +kernel
theorem n96_22 : xcn (xMo 96) 22 = some 1 := by decide +kernel
theorem d96_8 : decode prog_5_method_7_code 8 = .ok (.istore_n 3, 1) := by decide +kernel
theorem d96_9 : decode prog_5_method_7_code 9 = .ok (.aload_n 0, 1) := by decide +kernel
theorem d96_10 : decode prog_5_method_7_code 10 = .ok (.iload_n 2, 1) := by decide +kernel
theorem d96_11 : decode prog_5_method_7_code 11 = .ok (.invokestatic 33, 3) := by decide +kernel
theorem d96_14 : decode prog_5_method_7_code 14 = .ok (.invokevirtual 22, 3) := by decide +kernel
theorem d96_17 : decode prog_5_method_7_code 17 = .ok (.istore 4, 2) := by decide +kernel
theorem d96_19 : decode prog_5_method_7_code 19 = .ok (.iload_n 3, 1) := by decide +kernel
theorem d96_20 : decode prog_5_method_7_code 20 = .ok (.aload_n 0, 1) := by decide +kernel
theorem d96_21 : decode prog_5_method_7_code 21 = .ok (.getfield 15, 3) := by decide +kernel
theorem f96_15 : xFd (xMo 96) 15 = some (5, 1) := by decide +kernel
theorem d96_24 : decode prog_5_method_7_code 24 = .ok (.if_icmp .lt 18, 3) := by decide +kernel
theorem d96_27 : decode prog_5_method_7_code 27 = .ok (.aload_n 0, 1) := by decide +kernel
theorem d96_28 : decode prog_5_method_7_code 28 = .ok (.getfield 19, 3) := by decide +kernel
theorem f96_19 : xFd (xMo 96) 19 = some (5, 2) := by decide +kernel
theorem d96_31 : decode prog_5_method_7_code 31 = .ok (.ifCond .eq 13, 3) := by decide +kernel
theorem d96_34 : decode prog_5_method_7_code 34 = .ok (.iload_n 3, 1) := by decide +kernel
theorem d96_35 : decode prog_5_method_7_code 35 = .ok (.aload_n 0, 1) := by decide +kernel
theorem d96_36 : decode prog_5_method_7_code 36 = .ok (.invokevirtual 30, 3) := by decide +kernel
theorem k96_30_5 : xCa (xMo 96) 30 5 = some (1, 94, 0) := by decide +kernel
theorem n96_30 : xcn (xMo 96) 30 = some 0 := by decide +kernel
theorem d96_39 : decode prog_5_method_7_code 39 = .ok (.if_icmp .ne 5, 3) := by decide +kernel
theorem d96_42 : decode prog_5_method_7_code 42 = .ok (.iload_n 1, 1) := by decide +kernel
theorem d96_43 : decode prog_5_method_7_code 43 = .ok (.ireturn, 1) := by decide +kernel
theorem d96_44 : decode prog_5_method_7_code 44 = .ok (.aload_n 0, 1) := by decide +kernel
theorem d96_45 : decode prog_5_method_7_code 45 = .ok (.getfield 19, 3) := by decide +kernel
theorem d96_48 : decode prog_5_method_7_code 48 = .ok (.ifCond .eq 10, 3) := by decide +kernel
theorem d96_51 : decode prog_5_method_7_code 51 = .ok (.iload_n 1, 1) := by decide +kernel
theorem d96_52 : decode prog_5_method_7_code 52 = .ok (.aload_n 0, 1) := by decide +kernel
theorem d96_53 : decode prog_5_method_7_code 53 = .ok (.invokevirtual 26, 3) := by decide +kernel
theorem k96_26_5 : xCa (xMo 96) 26 5 = some (1, 95, 0) := by decide +kernel
theorem n96_26 : xcn (xMo 96) 26 = some 0 := by decide +kernel
theorem d96_56 : decode prog_5_method_7_code 56 = .ok (.iadd, 1) := by decide +kernel
theorem d96_57 : decode prog_5_method_7_code 57 = .ok (.ireturn, 1) := by decide +kernel
theorem d96_58 : decode prog_5_method_7_code 58 = .ok (.iload_n 3, 1) := by decide +kernel
theorem d96_59 : decode prog_5_method_7_code 59 = .ok (.aload_n 0, 1) := by decide +kernel
theorem d96_60 : decode prog_5_method_7_code 60 = .ok (.getfield 15, 3) := by decide +kernel
theorem d96_63 : decode prog_5_method_7_code 63 = .ok (.if_icmp .ne 14, 3) := by decide +kernel
theorem d96_66 : decode prog_5_method_7_code 66 = .ok (.iload 4, 2) := by decide +kernel
theorem d96_68 : decode prog_5_method_7_code 68 = .ok (.aload_n 0, 1) := by decide +kernel
theorem d96_69 : decode prog_5_method_7_code 69 = .ok (.getfield 15, 3) := by decide +kernel
theorem d96_72 : decode prog_5_method_7_code 72 = .ok (.if_icmp .ne 5, 3) := by decide +kernel
theorem d96_75 : decode prog_5_method_7_code 75 = .ok (.iconst (-1), 1) := by decide +kernel
theorem d96_76 : decode prog_5_method_7_code 76 = .ok (.ireturn, 1) := by decide +kernel
theorem d96_77 : decode prog_5_method_7_code 77 = .ok (.iload_n 3, 1) := by decide +kernel
theorem d96_78 : decode prog_5_method_7_code 78 = .ok (.aload_n 0, 1) := by decide +kernel
theorem d96_79 : decode prog_5_method_7_code 79 = .ok (.getfield 15, 3) := by decide +kernel
theorem d96_82 : decode prog_5_method_7_code 82 = .ok (.if_icmp .ne 16, 3) := by decide +kernel
theorem d96_85 : decode prog_5_method_7_code 85 = .ok (.iload 4, 2) := by decide +kernel
theorem d96_87 : decode prog_5_method_7_code 87 = .ok (.aload_n 0, 1) := by decide +kernel
theorem d96_88 : decode prog_5_method_7_code 88 = .ok (.getfield 15, 3) := by decide +kernel
theorem d96_91 : decode prog_5_method_7_code 91 = .ok (.if_icmp .le 7, 3) := by decide +kernel
theorem d96_94 : decode prog_5_method_7_code 94 = .ok (.iload_n 1, 1) := by decide +kernel
theorem d96_95 : decode prog_5_method_7_code 95 = .ok (.goto 9, 3) := by decide +kernel
theorem d96_98 : decode prog_5_method_7_code 98 = .ok (.iload_n 1, 1) := by decide +kernel
theorem d96_99 : decode prog_5_method_7_code 99 = .ok (.aload_n 0, 1) := by decide +kernel
theorem d96_100 : decode prog_5_method_7_code 100 = .ok (.invokevirtual 26, 3) := by decide +kernel
theorem d96_103 : decode prog_5_method_7_code 103 = .ok (.isub, 1) := by decide +kernel
theorem d96_104 : decode prog_5_method_7_code 104 = .ok (.ireturn, 1) := by decide +kernel
set_option maxRecDepth 100000 in
theorem q97 : xMc 97 = prog_5_method_1_code := rfl
theorem m97 : xMl 97 = 4 ∧ xMret 97 = none ∧ xMh 97 = [] := by decide +kernel
theorem e97 {X : xX} {d : Nat} {w : xH} {Q : xO → xH → Prop} (a : Nat) (x0 : Int32) (x1 : Int32) (x2 : Int32) : Cw X d 97 [.ref a, .int x0, .int x1, .int x2] w Q = Wx X d 97 0 [some (.ref a), some (.int x0), some (.int x1), some (.int x2)] [] w Q := by
  unfold Cw
  rw [m97.1]
  rfl
theorem d97_0 : decode prog_5_method_1_code 0 = .ok (.aload_n 0, 1) := by decide +kernel
theorem d97_1 : decode prog_5_method_1_code 1 = .ok (.invokespecial 3, 3) := by decide +kernel
theorem k97_3_98 : xCa (xMo 97) 3 98 = some (12, 146, 0) := by decide +kernel
theorem d97_4 : decode prog_5_method_1_code 4 = .ok (.aload_n 0, 1) := by decide +kernel
theorem d97_5 : decode prog_5_method_1_code 5 = .ok (.iload_n 1, 1) := by decide +kernel
theorem d97_6 : decode prog_5_method_1_code 6 = .ok (.putfield 9, 3) := by decide +kernel
theorem f97_9 : xFd (xMo 97) 9 = some (5, 0) := by decide +kernel
theorem d97_9 : decode prog_5_method_1_code 9 = .ok (.aload_n 0, 1) := by decide +kernel
theorem d97_10 : decode prog_5_method_1_code 10 = .ok (.iload_n 2, 1) := by decide +kernel
theorem d97_11 : decode prog_5_method_1_code 11 = .ok (.putfield 15, 3) := by decide +kernel
theorem f97_15 : xFd (xMo 97) 15 = some (5, 1) := by decide +kernel
theorem d97_14 : decode prog_5_method_1_code 14 = .ok (.aload_n 0, 1) := by decide +kernel
theorem d97_15 : decode prog_5_method_1_code 15 = .ok (.iload_n 3, 1) := by decide +kernel
theorem d97_16 : decode prog_5_method_1_code 16 = .ok (.putfield 19, 3) := by decide +kernel
theorem f97_19 : xFd (xMo 97) 19 = some (5, 2) := by decide +kernel
theorem d97_19 : decode prog_5_method_1_code 19 = .ok (.return_, 1) := by decide +kernel
set_option maxRecDepth 100000 in
theorem q98 : xMc 98 = prog_5_method_5_code := rfl
theorem m98 : xMl 98 = 3 ∧ xMret 98 = (some FieldType.int) ∧ xMh 98 = [] := by decide +kernel
theorem e98 {X : xX} {d : Nat} {w : xH} {Q : xO → xH → Prop} (a : Nat) (x0 : Int32) : Cw X d 98 [.ref a, .int x0] w Q = Wx X d 98 0 [some (.ref a), some (.int x0), none] [] w Q := by
  unfold Cw
  rw [m98.1]
  rfl
theorem d98_0 : decode prog_5_method_5_code 0 = .ok (.aload_n 0, 1) := by decide +kernel
theorem d98_1 : decode prog_5_method_5_code 1 = .ok (.iload_n 1, 1) := by decide +kernel
theorem d98_2 : decode prog_5_method_5_code 2 = .ok (.invokevirtual 22, 3) := by decide +kernel
theorem k98_22_5 : xCa (xMo 98) 22 5 = some (1, 93, 1) := by decide +kernel
theorem n98_22 : xcn (xMo 98) 22 = some 1 := by decide +kernel
theorem d98_5 : decode prog_5_method_5_code 5 = .ok (.istore_n 2, 1) := by decide +kernel
theorem d98_6 : decode prog_5_method_5_code 6 = .ok (.iload_n 2, 1) := by decide +kernel
theorem d98_7 : decode prog_5_method_5_code 7 = .ok (.aload_n 0, 1) := by decide +kernel
theorem d98_8 : decode prog_5_method_5_code 8 = .ok (.getfield 15, 3) := by decide +kernel
theorem f98_15 : xFd (xMo 98) 15 = some (5, 1) := by decide +kernel
theorem d98_11 : decode prog_5_method_5_code 11 = .ok (.if_icmp .ge 5, 3) := by decide +kernel
theorem d98_14 : decode prog_5_method_5_code 14 = .ok (.iload_n 1, 1) := by decide +kernel
theorem d98_15 : decode prog_5_method_5_code 15 = .ok (.ireturn, 1) := by decide +kernel
theorem d98_16 : decode prog_5_method_5_code 16 = .ok (.aload_n 0, 1) := by decide +kernel
theorem d98_17 : decode prog_5_method_5_code 17 = .ok (.getfield 19, 3) := by decide +kernel
theorem f98_19 : xFd (xMo 98) 19 = some (5, 2) := by decide +kernel
theorem d98_20 : decode prog_5_method_5_code 20 = .ok (.ifCond .eq 22, 3) := by decide +kernel
theorem d98_23 : decode prog_5_method_5_code 23 = .ok (.iload_n 2, 1) := by decide +kernel
theorem d98_24 : decode prog_5_method_5_code 24 = .ok (.aload_n 0, 1) := by decide +kernel
theorem d98_25 : decode prog_5_method_5_code 25 = .ok (.getfield 15, 3) := by decide +kernel
theorem d98_28 : decode prog_5_method_5_code 28 = .ok (.if_icmp .ne 7, 3) := by decide +kernel
theorem d98_31 : decode prog_5_method_5_code 31 = .ok (.iconst (-1), 1) := by decide +kernel
theorem d98_32 : decode prog_5_method_5_code 32 = .ok (.goto 9, 3) := by decide +kernel
theorem d98_35 : decode prog_5_method_5_code 35 = .ok (.iload_n 1, 1) := by decide +kernel
theorem d98_36 : decode prog_5_method_5_code 36 = .ok (.aload_n 0, 1) := by decide +kernel
theorem d98_37 : decode prog_5_method_5_code 37 = .ok (.invokevirtual 26, 3) := by decide +kernel
theorem k98_26_5 : xCa (xMo 98) 26 5 = some (1, 95, 0) := by decide +kernel
theorem n98_26 : xcn (xMo 98) 26 = some 0 := by decide +kernel
theorem d98_40 : decode prog_5_method_5_code 40 = .ok (.isub, 1) := by decide +kernel
theorem d98_41 : decode prog_5_method_5_code 41 = .ok (.ireturn, 1) := by decide +kernel
theorem d98_42 : decode prog_5_method_5_code 42 = .ok (.iload_n 2, 1) := by decide +kernel
theorem d98_43 : decode prog_5_method_5_code 43 = .ok (.aload_n 0, 1) := by decide +kernel
theorem d98_44 : decode prog_5_method_5_code 44 = .ok (.invokevirtual 30, 3) := by decide +kernel
theorem k98_30_5 : xCa (xMo 98) 30 5 = some (1, 94, 0) := by decide +kernel
theorem n98_30 : xcn (xMo 98) 30 = some 0 := by decide +kernel
theorem d98_47 : decode prog_5_method_5_code 47 = .ok (.if_icmp .ne 7, 3) := by decide +kernel
theorem d98_50 : decode prog_5_method_5_code 50 = .ok (.iconst (-1), 1) := by decide +kernel
theorem d98_51 : decode prog_5_method_5_code 51 = .ok (.goto 9, 3) := by decide +kernel
theorem d98_54 : decode prog_5_method_5_code 54 = .ok (.iload_n 1, 1) := by decide +kernel
theorem d98_55 : decode prog_5_method_5_code 55 = .ok (.aload_n 0, 1) := by decide +kernel
theorem d98_56 : decode prog_5_method_5_code 56 = .ok (.invokevirtual 26, 3) := by decide +kernel
theorem d98_59 : decode prog_5_method_5_code 59 = .ok (.iadd, 1) := by decide +kernel
theorem d98_60 : decode prog_5_method_5_code 60 = .ok (.ireturn, 1) := by decide +kernel
set_option maxRecDepth 100000 in
theorem q118 : xMc 118 = prog_7_method_2_code := rfl
theorem m118 : xMl 118 = 3 ∧ xMret 118 = (some FieldType.int) ∧ xMh 118 = [] := by decide +kernel
theorem e118 {X : xX} {d : Nat} {w : xH} {Q : xO → xH → Prop} (a : Nat) (x0 : Int32) : Cw X d 118 [.ref a, .int x0] w Q = Wx X d 118 0 [some (.ref a), some (.int x0), none] [] w Q := by
  unfold Cw
  rw [m118.1]
  rfl
theorem d118_0 : decode prog_7_method_2_code 0 = .ok (.iload_n 1, 1) := by decide +kernel
theorem d118_1 : decode prog_7_method_2_code 1 = .ok (.invokestatic 16, 3) := by decide +kernel
theorem k118_16_99 : xCa (xMo 118) 16 99 = some (0, 172, 1) := by decide +kernel
theorem d118_4 : decode prog_7_method_2_code 4 = .ok (.istore_n 2, 1) := by decide +kernel
theorem d118_5 : decode prog_7_method_2_code 5 = .ok (.iload_n 2, 1) := by decide +kernel
theorem d118_6 : decode prog_7_method_2_code 6 = .ok (.aload_n 0, 1) := by decide +kernel
theorem d118_7 : decode prog_7_method_2_code 7 = .ok (.getfield 13, 3) := by decide +kernel
theorem f118_13 : xFd (xMo 118) 13 = some (7, 1) := by decide +kernel
theorem d118_10 : decode prog_7_method_2_code 10 = .ok (.if_icmp .ne 5, 3) := by decide +kernel
theorem d118_13 : decode prog_7_method_2_code 13 = .ok (.iconst (-1), 1) := by decide +kernel
theorem d118_14 : decode prog_7_method_2_code 14 = .ok (.ireturn, 1) := by decide +kernel
theorem d118_15 : decode prog_7_method_2_code 15 = .ok (.iload_n 2, 1) := by decide +kernel
theorem d118_16 : decode prog_7_method_2_code 16 = .ok (.aload_n 0, 1) := by decide +kernel
theorem d118_17 : decode prog_7_method_2_code 17 = .ok (.getfield 7, 3) := by decide +kernel
theorem f118_7 : xFd (xMo 118) 7 = some (7, 0) := by decide +kernel
theorem d118_20 : decode prog_7_method_2_code 20 = .ok (.if_icmp .ne 17, 3) := by decide +kernel
theorem d118_23 : decode prog_7_method_2_code 23 = .ok (.iload_n 1, 1) := by decide +kernel
theorem d118_24 : decode prog_7_method_2_code 24 = .ok (.aload_n 0, 1) := by decide +kernel
theorem d118_25 : decode prog_7_method_2_code 25 = .ok (.getfield 7, 3) := by decide +kernel
theorem d118_28 : decode prog_7_method_2_code 28 = .ok (.isub, 1) := by decide +kernel
theorem d118_29 : decode prog_7_method_2_code 29 = .ok (.aload_n 0, 1) := by decide +kernel
theorem d118_30 : decode prog_7_method_2_code 30 = .ok (.getfield 13, 3) := by decide +kernel
theorem d118_33 : decode prog_7_method_2_code 33 = .ok (.iadd, 1) := by decide +kernel
theorem d118_34 : decode prog_7_method_2_code 34 = .ok (.goto 4, 3) := by decide +kernel
theorem d118_37 : decode prog_7_method_2_code 37 = .ok (.iload_n 1, 1) := by decide +kernel
theorem d118_38 : decode prog_7_method_2_code 38 = .ok (.ireturn, 1) := by decide +kernel
set_option maxRecDepth 100000 in
theorem q119 : xMc 119 = prog_7_method_3_code := rfl
theorem m119 : xMl 119 = 3 ∧ xMret 119 = (some FieldType.int) ∧ xMh 119 = [] := by decide +kernel
theorem e119 {X : xX} {d : Nat} {w : xH} {Q : xO → xH → Prop} (a : Nat) (x0 : Int32) (x1 : Int32) : Cw X d 119 [.ref a, .int x0, .int x1] w Q = Wx X d 119 0 [some (.ref a), some (.int x0), some (.int x1)] [] w Q := by
  unfold Cw
  rw [m119.1]
  rfl
theorem d119_0 : decode prog_7_method_3_code 0 = .ok (.iload_n 1, 1) := by decide +kernel
theorem d119_1 : decode prog_7_method_3_code 1 = .ok (.ireturn, 1) := by decide +kernel
set_option maxRecDepth 100000 in
theorem q120 : xMc 120 = prog_7_method_1_code := rfl
theorem m120 : xMl 120 = 3 ∧ xMret 120 = none ∧ xMh 120 = [] := by decide +kernel
theorem e120 {X : xX} {d : Nat} {w : xH} {Q : xO → xH → Prop} (a : Nat) (x0 : Int32) (x1 : Int32) : Cw X d 120 [.ref a, .int x0, .int x1] w Q = Wx X d 120 0 [some (.ref a), some (.int x0), some (.int x1)] [] w Q := by
  unfold Cw
  rw [m120.1]
  rfl
theorem d120_0 : decode prog_7_method_1_code 0 = .ok (.aload_n 0, 1) := by decide +kernel
theorem d120_1 : decode prog_7_method_1_code 1 = .ok (.invokespecial 1, 3) := by decide +kernel
theorem k120_1_98 : xCa (xMo 120) 1 98 = some (12, 146, 0) := by decide +kernel
theorem d120_4 : decode prog_7_method_1_code 4 = .ok (.aload_n 0, 1) := by decide +kernel
theorem d120_5 : decode prog_7_method_1_code 5 = .ok (.iload_n 1, 1) := by decide +kernel
theorem d120_6 : decode prog_7_method_1_code 6 = .ok (.putfield 7, 3) := by decide +kernel
theorem f120_7 : xFd (xMo 120) 7 = some (7, 0) := by decide +kernel
theorem d120_9 : decode prog_7_method_1_code 9 = .ok (.aload_n 0, 1) := by decide +kernel
theorem d120_10 : decode prog_7_method_1_code 10 = .ok (.iload_n 2, 1) := by decide +kernel
theorem d120_11 : decode prog_7_method_1_code 11 = .ok (.putfield 13, 3) := by decide +kernel
theorem f120_13 : xFd (xMo 120) 13 = some (7, 1) := by decide +kernel
theorem d120_14 : decode prog_7_method_1_code 14 = .ok (.return_, 1) := by decide +kernel
set_option maxRecDepth 100000 in
theorem q146 : xMc 146 = prog_9_method_1_code := rfl
theorem m146 : xMl 146 = 1 ∧ xMret 146 = none ∧ xMh 146 = [] := by decide +kernel
theorem e146 {X : xX} {d : Nat} {w : xH} {Q : xO → xH → Prop} (a : Nat) : Cw X d 146 [.ref a] w Q = Wx X d 146 0 [some (.ref a)] [] w Q := by
  unfold Cw
  rw [m146.1]
  rfl
theorem d146_0 : decode prog_9_method_1_code 0 = .ok (.aload_n 0, 1) := by decide +kernel
theorem d146_1 : decode prog_9_method_1_code 1 = .ok (.invokespecial 1, 3) := by decide +kernel
theorem d146_4 : decode prog_9_method_1_code 4 = .ok (.return_, 1) := by decide +kernel
set_option maxRecDepth 100000 in
theorem q147 : xMc 147 = prog_9_method_4_code := rfl
theorem m147 : xMl 147 = 4 ∧ xMret 147 = (some FieldType.int) ∧ xMh 147 = [] := by decide +kernel
theorem e147 {X : xX} {d : Nat} {w : xH} {Q : xO → xH → Prop} (a : Nat) (x0 : Int32) : Cw X d 147 [.ref a, .int x0] w Q = Wx X d 147 0 [some (.ref a), some (.int x0), none, none] [] w Q := by
  unfold Cw
  rw [m147.1]
  rfl
theorem d147_0 : decode prog_9_method_4_code 0 = .ok (.iload_n 1, 1) := by decide +kernel
theorem d147_1 : decode prog_9_method_4_code 1 = .ok (.invokestatic 7, 3) := by decide +kernel
theorem k147_7_99 : xCa (xMo 147) 7 99 = some (0, 171, 1) := by decide +kernel
theorem d147_4 : decode prog_9_method_4_code 4 = .ok (.iconst 2, 1) := by decide +kernel
theorem d147_5 : decode prog_9_method_4_code 5 = .ok (.if_icmp .ne 30, 3) := by decide +kernel
theorem d147_8 : decode prog_9_method_4_code 8 = .ok (.aload_n 0, 1) := by decide +kernel
theorem d147_9 : decode prog_9_method_4_code 9 = .ok (.iload_n 1, 1) := by decide +kernel
theorem d147_10 : decode prog_9_method_4_code 10 = .ok (.invokestatic 13, 3) := by decide +kernel
theorem k147_13_99 : xCa (xMo 147) 13 99 = some (0, 169, 1) := by decide +kernel
theorem d147_13 : decode prog_9_method_4_code 13 = .ok (.invokevirtual 16, 3) := by decide +kernel
theorem k147_16_3 : xCa (xMo 147) 16 3 = some (7, 87, 1) := by decide +kernel
theorem k147_16_5 : xCa (xMo 147) 16 5 = some (7, 92, 1) := by decide +kernel
theorem k147_16_7 : xCa (xMo 147) 16 7 = some (7, 118, 1) := by decide +kernel
theorem n147_16 : xcn (xMo 147) 16 = some 1 := by decide +kernel
theorem d147_16 : decode prog_9_method_4_code 16 = .ok (.istore_n 2, 1) := by decide +kernel
theorem d147_17 : decode prog_9_method_4_code 17 = .ok (.iload_n 2, 1) := by decide +kernel
theorem d147_18 : decode prog_9_method_4_code 18 = .ok (.ifCond .ge 11, 3) := by decide +kernel
theorem d147_21 : decode prog_9_method_4_code 21 = .ok (.iconst 4, 1) := by decide +kernel
theorem d147_22 : decode prog_9_method_4_code 22 = .ok (.iconst 0, 1) := by decide +kernel
theorem d147_23 : decode prog_9_method_4_code 23 = .ok (.invokestatic 21, 3) := by decide +kernel
theorem k147_21_99 : xCa (xMo 147) 21 99 = some (0, 167, 2) := by decide +kernel
theorem d147_26 : decode prog_9_method_4_code 26 = .ok (.goto 8, 3) := by decide +kernel
theorem d147_29 : decode prog_9_method_4_code 29 = .ok (.iconst 2, 1) := by decide +kernel
theorem d147_30 : decode prog_9_method_4_code 30 = .ok (.iload_n 2, 1) := by decide +kernel
theorem d147_31 : decode prog_9_method_4_code 31 = .ok (.invokestatic 21, 3) := by decide +kernel
theorem d147_34 : decode prog_9_method_4_code 34 = .ok (.ireturn, 1) := by decide +kernel
theorem d147_35 : decode prog_9_method_4_code 35 = .ok (.iload_n 1, 1) := by decide +kernel
theorem d147_36 : decode prog_9_method_4_code 36 = .ok (.invokestatic 7, 3) := by decide +kernel
theorem d147_39 : decode prog_9_method_4_code 39 = .ok (.iconst 3, 1) := by decide +kernel
theorem d147_40 : decode prog_9_method_4_code 40 = .ok (.if_icmp .ne 51, 3) := by decide +kernel
theorem d147_43 : decode prog_9_method_4_code 43 = .ok (.aload_n 0, 1) := by decide +kernel
theorem d147_44 : decode prog_9_method_4_code 44 = .ok (.iload_n 1, 1) := by decide +kernel
theorem d147_45 : decode prog_9_method_4_code 45 = .ok (.invokestatic 25, 3) := by decide +kernel
theorem k147_25_99 : xCa (xMo 147) 25 99 = some (0, 173, 1) := by decide +kernel
theorem d147_48 : decode prog_9_method_4_code 48 = .ok (.iload_n 1, 1) := by decide +kernel
theorem d147_49 : decode prog_9_method_4_code 49 = .ok (.invokestatic 28, 3) := by decide +kernel
theorem k147_28_99 : xCa (xMo 147) 28 99 = some (0, 174, 1) := by decide +kernel
theorem d147_52 : decode prog_9_method_4_code 52 = .ok (.invokevirtual 31, 3) := by decide +kernel
theorem k147_31_3 : xCa (xMo 147) 31 3 = some (7, 88, 2) := by decide +kernel
theorem k147_31_5 : xCa (xMo 147) 31 5 = some (7, 96, 2) := by decide +kernel
theorem k147_31_7 : xCa (xMo 147) 31 7 = some (7, 119, 2) := by decide +kernel
theorem n147_31 : xcn (xMo 147) 31 = some 2 := by decide +kernel
theorem d147_55 : decode prog_9_method_4_code 55 = .ok (.istore_n 2, 1) := by decide +kernel
theorem d147_56 : decode prog_9_method_4_code 56 = .ok (.aload_n 0, 1) := by decide +kernel
theorem d147_57 : decode prog_9_method_4_code 57 = .ok (.iload_n 1, 1) := by decide +kernel
theorem d147_58 : decode prog_9_method_4_code 58 = .ok (.invokestatic 28, 3) := by decide +kernel
theorem d147_61 : decode prog_9_method_4_code 61 = .ok (.iload_n 1, 1) := by decide +kernel
theorem d147_62 : decode prog_9_method_4_code 62 = .ok (.invokestatic 25, 3) := by decide +kernel
theorem d147_65 : decode prog_9_method_4_code 65 = .ok (.invokevirtual 31, 3) := by decide +kernel
theorem d147_68 : decode prog_9_method_4_code 68 = .ok (.istore_n 3, 1) := by decide +kernel
theorem d147_69 : decode prog_9_method_4_code 69 = .ok (.iload_n 2, 1) := by decide +kernel
theorem d147_70 : decode prog_9_method_4_code 70 = .ok (.ifCond .lt 7, 3) := by decide +kernel
theorem d147_73 : decode prog_9_method_4_code 73 = .ok (.iload_n 3, 1) := by decide +kernel
theorem d147_74 : decode prog_9_method_4_code 74 = .ok (.ifCond .ge 11, 3) := by decide +kernel
theorem d147_77 : decode prog_9_method_4_code 77 = .ok (.iconst 4, 1) := by decide +kernel
theorem d147_78 : decode prog_9_method_4_code 78 = .ok (.iconst 0, 1) := by decide +kernel
theorem d147_79 : decode prog_9_method_4_code 79 = .ok (.invokestatic 21, 3) := by decide +kernel
theorem d147_82 : decode prog_9_method_4_code 82 = .ok (.goto 8, 3) := by decide +kernel
theorem d147_85 : decode prog_9_method_4_code 85 = .ok (.iload_n 2, 1) := by decide +kernel
theorem d147_86 : decode prog_9_method_4_code 86 = .ok (.iload_n 3, 1) := by decide +kernel
theorem d147_87 : decode prog_9_method_4_code 87 = .ok (.invokestatic 34, 3) := by decide +kernel
theorem k147_34_99 : xCa (xMo 147) 34 99 = some (0, 170, 2) := by decide +kernel
theorem d147_90 : decode prog_9_method_4_code 90 = .ok (.ireturn, 1) := by decide +kernel
theorem d147_91 : decode prog_9_method_4_code 91 = .ok (.iload_n 1, 1) := by decide +kernel
theorem d147_92 : decode prog_9_method_4_code 92 = .ok (.ireturn, 1) := by decide +kernel
set_option maxRecDepth 100000 in
theorem q148 : xMc 148 = prog_10_method_1_code := rfl
theorem m148 : xMl 148 = 1 ∧ xMret 148 = none ∧ xMh 148 = [] := by decide +kernel
theorem e148 {X : xX} {d : Nat} {w : xH} {Q : xO → xH → Prop} (a : Nat) : Cw X d 148 [.ref a] w Q = Wx X d 148 0 [some (.ref a)] [] w Q := by
  unfold Cw
  rw [m148.1]
  rfl
theorem d148_0 : decode prog_10_method_1_code 0 = .ok (.aload_n 0, 1) := by decide +kernel
theorem d148_1 : decode prog_10_method_1_code 1 = .ok (.invokespecial 3, 3) := by decide +kernel
theorem d148_4 : decode prog_10_method_1_code 4 = .ok (.aload_n 0, 1) := by decide +kernel
theorem d148_5 : decode prog_10_method_1_code 5 = .ok (.sipush 200, 3) := by decide +kernel
theorem d148_8 : decode prog_10_method_1_code 8 = .ok (.newarray .int, 2) := by decide +kernel
theorem d148_10 : decode prog_10_method_1_code 10 = .ok (.putfield 9, 3) := by decide +kernel
theorem f148_9 : xFd (xMo 148) 9 = some (9, 0) := by decide +kernel
theorem d148_13 : decode prog_10_method_1_code 13 = .ok (.aload_n 0, 1) := by decide +kernel
theorem d148_14 : decode prog_10_method_1_code 14 = .ok (.sipush 200, 3) := by decide +kernel
theorem d148_17 : decode prog_10_method_1_code 17 = .ok (.newarray .int, 2) := by decide +kernel
theorem d148_19 : decode prog_10_method_1_code 19 = .ok (.putfield 15, 3) := by decide +kernel
theorem f148_15 : xFd (xMo 148) 15 = some (9, 1) := by decide +kernel
theorem d148_22 : decode prog_10_method_1_code 22 = .ok (.aload_n 0, 1) := by decide +kernel
theorem d148_23 : decode prog_10_method_1_code 23 = .ok (.sipush 200, 3) := by decide +kernel
theorem d148_26 : decode prog_10_method_1_code 26 = .ok (.newarray .int, 2) := by decide +kernel
theorem d148_28 : decode prog_10_method_1_code 28 = .ok (.putfield 18, 3) := by decide +kernel
theorem f148_18 : xFd (xMo 148) 18 = some (9, 2) := by decide +kernel
theorem d148_31 : decode prog_10_method_1_code 31 = .ok (.aload_n 0, 1) := by decide +kernel
theorem d148_32 : decode prog_10_method_1_code 32 = .ok (.sipush 200, 3) := by decide +kernel
theorem d148_35 : decode prog_10_method_1_code 35 = .ok (.newarray .int, 2) := by decide +kernel
theorem d148_37 : decode prog_10_method_1_code 37 = .ok (.putfield 21, 3) := by decide +kernel
theorem f148_21 : xFd (xMo 148) 21 = some (9, 3) := by decide +kernel
theorem d148_40 : decode prog_10_method_1_code 40 = .ok (.aload_n 0, 1) := by decide +kernel
theorem d148_41 : decode prog_10_method_1_code 41 = .ok (.sipush 12000, 3) := by decide +kernel
theorem d148_44 : decode prog_10_method_1_code 44 = .ok (.newarray .int, 2) := by decide +kernel
theorem d148_46 : decode prog_10_method_1_code 46 = .ok (.putfield 24, 3) := by decide +kernel
theorem f148_24 : xFd (xMo 148) 24 = some (9, 4) := by decide +kernel
theorem d148_49 : decode prog_10_method_1_code 49 = .ok (.return_, 1) := by decide +kernel
set_option maxRecDepth 100000 in
theorem q149 : xMc 149 = prog_10_method_2_code := rfl
theorem m149 : xMl 149 = 3 ∧ xMret 149 = none ∧ xMh 149 = [] := by decide +kernel
theorem e149 {X : xX} {d : Nat} {w : xH} {Q : xO → xH → Prop} (a : Nat) (x0 : Nat) : Cw X d 149 [.ref a, .ref x0] w Q = Wx X d 149 0 [some (.ref a), some (.ref x0), none] [] w Q := by
  unfold Cw
  rw [m149.1]
  rfl
theorem d149_0 : decode prog_10_method_2_code 0 = .ok (.iconst 0, 1) := by decide +kernel
theorem d149_1 : decode prog_10_method_2_code 1 = .ok (.istore_n 2, 1) := by decide +kernel
theorem d149_2 : decode prog_10_method_2_code 2 = .ok (.iload_n 2, 1) := by decide +kernel
theorem d149_3 : decode prog_10_method_2_code 3 = .ok (.sipush 200, 3) := by decide +kernel
theorem d149_6 : decode prog_10_method_2_code 6 = .ok (.if_icmp .ge 16, 3) := by decide +kernel
theorem d149_9 : decode prog_10_method_2_code 9 = .ok (.aload_n 0, 1) := by decide +kernel
theorem d149_10 : decode prog_10_method_2_code 10 = .ok (.iload_n 2, 1) := by decide +kernel
theorem d149_11 : decode prog_10_method_2_code 11 = .ok (.aload_n 1, 1) := by decide +kernel
theorem d149_12 : decode prog_10_method_2_code 12 = .ok (.iload_n 2, 1) := by decide +kernel
theorem d149_13 : decode prog_10_method_2_code 13 = .ok (.invokevirtual 27, 3) := by decide +kernel
theorem k149_27_9 : xCa (xMo 149) 27 9 = some (1, 150, 3) := by decide +kernel
theorem n149_27 : xcn (xMo 149) 27 = some 3 := by decide +kernel
theorem d149_16 : decode prog_10_method_2_code 16 = .ok (.iinc 2 1, 3) := by decide +kernel
theorem d149_19 : decode prog_10_method_2_code 19 = .ok (.goto (-17), 3) := by decide +kernel
theorem d149_22 : decode prog_10_method_2_code 22 = .ok (.aload_n 0, 1) := by decide +kernel
theorem d149_23 : decode prog_10_method_2_code 23 = .ok (.aload_n 1, 1) := by decide +kernel
theorem d149_24 : decode prog_10_method_2_code 24 = .ok (.getfield 31, 3) := by decide +kernel
theorem f149_31 : xFd (xMo 149) 31 = some (9, 5) := by decide +kernel
theorem d149_27 : decode prog_10_method_2_code 27 = .ok (.putfield 31, 3) := by decide +kernel
theorem d149_30 : decode prog_10_method_2_code 30 = .ok (.aload_n 0, 1) := by decide +kernel
theorem d149_31 : decode prog_10_method_2_code 31 = .ok (.aload_n 1, 1) := by decide +kernel
theorem d149_32 : decode prog_10_method_2_code 32 = .ok (.getfield 35, 3) := by decide +kernel
theorem f149_35 : xFd (xMo 149) 35 = some (9, 6) := by decide +kernel
theorem d149_35 : decode prog_10_method_2_code 35 = .ok (.putfield 35, 3) := by decide +kernel
theorem d149_38 : decode prog_10_method_2_code 38 = .ok (.return_, 1) := by decide +kernel
set_option maxRecDepth 100000 in
theorem q150 : xMc 150 = prog_10_method_3_code := rfl
theorem m150 : xMl 150 = 4 ∧ xMret 150 = none ∧ xMh 150 = [] := by decide +kernel
theorem e150 {X : xX} {d : Nat} {w : xH} {Q : xO → xH → Prop} (a : Nat) (x0 : Int32) (x1 : Nat) (x2 : Int32) : Cw X d 150 [.ref a, .int x0, .ref x1, .int x2] w Q = Wx X d 150 0 [some (.ref a), some (.int x0), some (.ref x1), some (.int x2)] [] w Q := by
  unfold Cw
  rw [m150.1]
  rfl
theorem d150_0 : decode prog_10_method_3_code 0 = .ok (.iload_n 1, 1) := by decide +kernel
theorem d150_1 : decode prog_10_method_3_code 1 = .ok (.invokestatic 38, 3) := by decide +kernel
theorem k150_38_99 : xCa (xMo 150) 38 99 = some (10, 5, 1) := by decide +kernel
theorem d150_4 : decode prog_10_method_3_code 4 = .ok (.ifCond .eq 10, 3) := by decide +kernel
theorem d150_7 : decode prog_10_method_3_code 7 = .ok (.iload_n 3, 1) := by decide +kernel
theorem d150_8 : decode prog_10_method_3_code 8 = .ok (.invokestatic 38, 3) := by decide +kernel
theorem d150_11 : decode prog_10_method_3_code 11 = .ok (.ifCond .ne 4, 3) := by decide +kernel
theorem d150_14 : decode prog_10_method_3_code 14 = .ok (.return_, 1) := by decide +kernel
theorem d150_15 : decode prog_10_method_3_code 15 = .ok (.aload_n 0, 1) := by decide +kernel
theorem d150_16 : decode prog_10_method_3_code 16 = .ok (.getfield 9, 3) := by decide +kernel
theorem f150_9 : xFd (xMo 150) 9 = some (9, 0) := by decide +kernel
theorem d150_19 : decode prog_10_method_3_code 19 = .ok (.iload_n 1, 1) := by decide +kernel
theorem d150_20 : decode prog_10_method_3_code 20 = .ok (.aload_n 2, 1) := by decide +kernel
theorem d150_21 : decode prog_10_method_3_code 21 = .ok (.getfield 9, 3) := by decide +kernel
theorem d150_24 : decode prog_10_method_3_code 24 = .ok (.iload_n 3, 1) := by decide +kernel
theorem d150_25 : decode prog_10_method_3_code 25 = .ok (.iaload, 1) := by decide +kernel
theorem d150_26 : decode prog_10_method_3_code 26 = .ok (.iastore, 1) := by decide +kernel
theorem d150_27 : decode prog_10_method_3_code 27 = .ok (.aload_n 0, 1) := by decide +kernel
theorem d150_28 : decode prog_10_method_3_code 28 = .ok (.getfield 15, 3) := by decide +kernel
theorem f150_15 : xFd (xMo 150) 15 = some (9, 1) := by decide +kernel
theorem d150_31 : decode prog_10_method_3_code 31 = .ok (.iload_n 1, 1) := by decide +kernel
theorem d150_32 : decode prog_10_method_3_code 32 = .ok (.aload_n 2, 1) := by decide +kernel
theorem d150_33 : decode prog_10_method_3_code 33 = .ok (.getfield 15, 3) := by decide +kernel
theorem d150_36 : decode prog_10_method_3_code 36 = .ok (.iload_n 3, 1) := by decide +kernel
theorem d150_37 : decode prog_10_method_3_code 37 = .ok (.iaload, 1) := by decide +kernel
theorem d150_38 : decode prog_10_method_3_code 38 = .ok (.iastore, 1) := by decide +kernel
theorem d150_39 : decode prog_10_method_3_code 39 = .ok (.aload_n 0, 1) := by decide +kernel
theorem d150_40 : decode prog_10_method_3_code 40 = .ok (.getfield 18, 3) := by decide +kernel
theorem f150_18 : xFd (xMo 150) 18 = some (9, 2) := by decide +kernel
theorem d150_43 : decode prog_10_method_3_code 43 = .ok (.iload_n 1, 1) := by decide +kernel
theorem d150_44 : decode prog_10_method_3_code 44 = .ok (.aload_n 2, 1) := by decide +kernel
theorem d150_45 : decode prog_10_method_3_code 45 = .ok (.getfield 18, 3) := by decide +kernel
theorem d150_48 : decode prog_10_method_3_code 48 = .ok (.iload_n 3, 1) := by decide +kernel
theorem d150_49 : decode prog_10_method_3_code 49 = .ok (.iaload, 1) := by decide +kernel
theorem d150_50 : decode prog_10_method_3_code 50 = .ok (.iastore, 1) := by decide +kernel
theorem d150_51 : decode prog_10_method_3_code 51 = .ok (.aload_n 0, 1) := by decide +kernel
theorem d150_52 : decode prog_10_method_3_code 52 = .ok (.iload_n 1, 1) := by decide +kernel
theorem d150_53 : decode prog_10_method_3_code 53 = .ok (.aload_n 2, 1) := by decide +kernel
theorem d150_54 : decode prog_10_method_3_code 54 = .ok (.getfield 24, 3) := by decide +kernel
theorem f150_24 : xFd (xMo 150) 24 = some (9, 4) := by decide +kernel
theorem d150_57 : decode prog_10_method_3_code 57 = .ok (.iload_n 3, 1) := by decide +kernel
theorem d150_58 : decode prog_10_method_3_code 58 = .ok (.bipush 60, 2) := by decide +kernel
theorem d150_60 : decode prog_10_method_3_code 60 = .ok (.imul, 1) := by decide +kernel
theorem d150_61 : decode prog_10_method_3_code 61 = .ok (.aload_n 2, 1) := by decide +kernel
theorem d150_62 : decode prog_10_method_3_code 62 = .ok (.getfield 21, 3) := by decide +kernel
theorem f150_21 : xFd (xMo 150) 21 = some (9, 3) := by decide +kernel
theorem d150_65 : decode prog_10_method_3_code 65 = .ok (.iload_n 3, 1) := by decide +kernel
theorem d150_66 : decode prog_10_method_3_code 66 = .ok (.iaload, 1) := by decide +kernel
theorem d150_67 : decode prog_10_method_3_code 67 = .ok (.invokevirtual 42, 3) := by decide +kernel
theorem k150_42_9 : xCa (xMo 150) 42 9 = some (1, 151, 4) := by decide +kernel
theorem n150_42 : xcn (xMo 150) 42 = some 4 := by decide +kernel
theorem d150_70 : decode prog_10_method_3_code 70 = .ok (.return_, 1) := by decide +kernel
set_option maxRecDepth 100000 in
theorem q151 : xMc 151 = prog_10_method_5_code := rfl
theorem m151 : xMl 151 = 8 ∧ xMret 151 = none ∧ xMh 151 = [] := by decide +kernel
theorem e151 {X : xX} {d : Nat} {w : xH} {Q : xO → xH → Prop} (a : Nat) (x0 : Int32) (x1 : Nat) (x2 : Int32) (x3 : Int32) : Cw X d 151 [.ref a, .int x0, .ref x1, .int x2, .int x3] w Q = Wx X d 151 0 [some (.ref a), some (.int x0), some (.ref x1), some (.int x2), some (.int x3), none, none, none] [] w Q := by
  unfold Cw
  rw [m151.1]
  rfl
theorem d151_0 : decode prog_10_method_5_code 0 = .ok (.iload 4, 2) := by decide +kernel
theorem d151_2 : decode prog_10_method_5_code 2 = .ok (.bipush 60, 2) := by decide +kernel
theorem d151_4 : decode prog_10_method_5_code 4 = .ok (.invokestatic 58, 3) := by decide +kernel
theorem k151_58_99 : xCa (xMo 151) 58 99 = some (0, 409, 2) := by decide +kernel
theorem d151_7 : decode prog_10_method_5_code 7 = .ok (.istore 5, 2) := by decide +kernel
theorem d151_9 : decode prog_10_method_5_code 9 = .ok (.iload_n 1, 1) := by decide +kernel
theorem d151_10 : decode prog_10_method_5_code 10 = .ok (.bipush 60, 2) := by decide +kernel
theorem d151_12 : decode prog_10_method_5_code 12 = .ok (.imul, 1) := by decide +kernel
theorem d151_13 : decode prog_10_method_5_code 13 = .ok (.istore 6, 2) := by decide +kernel
theorem d151_15 : decode prog_10_method_5_code 15 = .ok (.aload_n 0, 1) := by decide +kernel
theorem d151_16 : decode prog_10_method_5_code 16 = .ok (.getfield 21, 3) := by decide +kernel
theorem f151_21 : xFd (xMo 151) 21 = some (9, 3) := by decide +kernel
theorem d151_19 : decode prog_10_method_5_code 19 = .ok (.iload_n 1, 1) := by decide +kernel
theorem d151_20 : decode prog_10_method_5_code 20 = .ok (.iload 5, 2) := by decide +kernel
theorem d151_22 : decode prog_10_method_5_code 22 = .ok (.iconst 0, 1) := by decide +kernel
theorem d151_23 : decode prog_10_method_5_code 23 = .ok (.invokestatic 64, 3) := by decide +kernel
theorem k151_64_99 : xCa (xMo 151) 64 99 = some (0, 410, 2) := by decide +kernel
theorem d151_26 : decode prog_10_method_5_code 26 = .ok (.iastore, 1) := by decide +kernel
theorem d151_27 : decode prog_10_method_5_code 27 = .ok (.iconst 0, 1) := by decide +kernel
theorem d151_28 : decode prog_10_method_5_code 28 = .ok (.istore 7, 2) := by decide +kernel
theorem d151_30 : decode prog_10_method_5_code 30 = .ok (.iload 7, 2) := by decide +kernel
theorem d151_32 : decode prog_10_method_5_code 32 = .ok (.iload 5, 2) := by decide +kernel
theorem d151_34 : decode prog_10_method_5_code 34 = .ok (.if_icmp .ge 34, 3) := by decide +kernel
theorem d151_37 : decode prog_10_method_5_code 37 = .ok (.iload_n 3, 1) := by decide +kernel
theorem d151_38 : decode prog_10_method_5_code 38 = .ok (.iload 7, 2) := by decide +kernel
theorem d151_40 : decode prog_10_method_5_code 40 = .ok (.iadd, 1) := by decide +kernel
theorem d151_41 : decode prog_10_method_5_code 41 = .ok (.aload_n 2, 1) := by decide +kernel
theorem d151_42 : decode prog_10_method_5_code 42 = .ok (.arraylength, 1) := by decide +kernel
theorem d151_43 : decode prog_10_method_5_code 43 = .ok (.if_icmp .ge 25, 3) := by decide +kernel
theorem d151_46 : decode prog_10_method_5_code 46 = .ok (.aload_n 0, 1) := by decide +kernel
theorem d151_47 : decode prog_10_method_5_code 47 = .ok (.getfield 24, 3) := by decide +kernel
theorem f151_24 : xFd (xMo 151) 24 = some (9, 4) := by decide +kernel
theorem d151_50 : decode prog_10_method_5_code 50 = .ok (.iload 6, 2) := by decide +kernel
theorem d151_52 : decode prog_10_method_5_code 52 = .ok (.iload 7, 2) := by decide +kernel
theorem d151_54 : decode prog_10_method_5_code 54 = .ok (.iadd, 1) := by decide +kernel
theorem d151_55 : decode prog_10_method_5_code 55 = .ok (.aload_n 2, 1) := by decide +kernel
theorem d151_56 : decode prog_10_method_5_code 56 = .ok (.iload_n 3, 1) := by decide +kernel
theorem d151_57 : decode prog_10_method_5_code 57 = .ok (.iload 7, 2) := by decide +kernel
theorem d151_59 : decode prog_10_method_5_code 59 = .ok (.iadd, 1) := by decide +kernel
theorem d151_60 : decode prog_10_method_5_code 60 = .ok (.iaload, 1) := by decide +kernel
theorem d151_61 : decode prog_10_method_5_code 61 = .ok (.iastore, 1) := by decide +kernel
theorem d151_62 : decode prog_10_method_5_code 62 = .ok (.iinc 7 1, 3) := by decide +kernel
theorem d151_65 : decode prog_10_method_5_code 65 = .ok (.goto (-35), 3) := by decide +kernel
theorem d151_68 : decode prog_10_method_5_code 68 = .ok (.return_, 1) := by decide +kernel
set_option maxRecDepth 100000 in
theorem q152 : xMc 152 = prog_10_method_14_code := rfl
theorem m152 : xMl 152 = 3 ∧ xMret 152 = (some FieldType.int) ∧ xMh 152 = [] := by decide +kernel
theorem e152 {X : xX} {d : Nat} {w : xH} {Q : xO → xH → Prop} (a : Nat) : Cw X d 152 [.ref a] w Q = Wx X d 152 0 [some (.ref a), none, none] [] w Q := by
  unfold Cw
  rw [m152.1]
  rfl
theorem d152_0 : decode prog_10_method_14_code 0 = .ok (.iconst 0, 1) := by decide +kernel
theorem d152_1 : decode prog_10_method_14_code 1 = .ok (.istore_n 1, 1) := by decide +kernel
theorem d152_2 : decode prog_10_method_14_code 2 = .ok (.iconst 0, 1) := by decide +kernel
theorem d152_3 : decode prog_10_method_14_code 3 = .ok (.istore_n 2, 1) := by decide +kernel
theorem d152_4 : decode prog_10_method_14_code 4 = .ok (.iload_n 2, 1) := by decide +kernel
theorem d152_5 : decode prog_10_method_14_code 5 = .ok (.sipush 200, 3) := by decide +kernel
theorem d152_8 : decode prog_10_method_14_code 8 = .ok (.if_icmp .ge 21, 3) := by decide +kernel
theorem d152_11 : decode prog_10_method_14_code 11 = .ok (.aload_n 0, 1) := by decide +kernel
theorem d152_12 : decode prog_10_method_14_code 12 = .ok (.getfield 9, 3) := by decide +kernel
theorem f152_9 : xFd (xMo 152) 9 = some (9, 0) := by decide +kernel
theorem d152_15 : decode prog_10_method_14_code 15 = .ok (.iload_n 2, 1) := by decide +kernel
theorem d152_16 : decode prog_10_method_14_code 16 = .ok (.iaload, 1) := by decide +kernel
theorem d152_17 : decode prog_10_method_14_code 17 = .ok (.ifCond .eq 6, 3) := by decide +kernel
theorem d152_20 : decode prog_10_method_14_code 20 = .ok (.iinc 1 1, 3) := by decide +kernel
theorem d152_23 : decode prog_10_method_14_code 23 = .ok (.iinc 2 1, 3) := by decide +kernel
theorem d152_26 : decode prog_10_method_14_code 26 = .ok (.goto (-22), 3) := by decide +kernel
theorem d152_29 : decode prog_10_method_14_code 29 = .ok (.iload_n 1, 1) := by decide +kernel
theorem d152_30 : decode prog_10_method_14_code 30 = .ok (.ireturn, 1) := by decide +kernel
set_option maxRecDepth 100000 in
theorem q153 : xMc 153 = prog_10_method_17_code := rfl
theorem m153 : xMl 153 = 3 ∧ xMret 153 = (some FieldType.int) ∧ xMh 153 = [] := by decide +kernel
theorem e153 {X : xX} {d : Nat} {w : xH} {Q : xO → xH → Prop} (a : Nat) : Cw X d 153 [.ref a] w Q = Wx X d 153 0 [some (.ref a), none, none] [] w Q := by
  unfold Cw
  rw [m153.1]
  rfl
theorem d153_0 : decode prog_10_method_17_code 0 = .ok (.iconst 0, 1) := by decide +kernel
theorem d153_1 : decode prog_10_method_17_code 1 = .ok (.istore_n 1, 1) := by decide +kernel
theorem d153_2 : decode prog_10_method_17_code 2 = .ok (.iconst 0, 1) := by decide +kernel
theorem d153_3 : decode prog_10_method_17_code 3 = .ok (.istore_n 2, 1) := by decide +kernel
theorem d153_4 : decode prog_10_method_17_code 4 = .ok (.iload_n 2, 1) := by decide +kernel
theorem d153_5 : decode prog_10_method_17_code 5 = .ok (.sipush 200, 3) := by decide +kernel
theorem d153_8 : decode prog_10_method_17_code 8 = .ok (.if_icmp .ge 21, 3) := by decide +kernel
theorem d153_11 : decode prog_10_method_17_code 11 = .ok (.aload_n 0, 1) := by decide +kernel
theorem d153_12 : decode prog_10_method_17_code 12 = .ok (.getfield 18, 3) := by decide +kernel
theorem f153_18 : xFd (xMo 153) 18 = some (9, 2) := by decide +kernel
theorem d153_15 : decode prog_10_method_17_code 15 = .ok (.iload_n 2, 1) := by decide +kernel
theorem d153_16 : decode prog_10_method_17_code 16 = .ok (.iaload, 1) := by decide +kernel
theorem d153_17 : decode prog_10_method_17_code 17 = .ok (.ifCond .eq 6, 3) := by decide +kernel
theorem d153_20 : decode prog_10_method_17_code 20 = .ok (.iinc 1 1, 3) := by decide +kernel
theorem d153_23 : decode prog_10_method_17_code 23 = .ok (.iinc 2 1, 3) := by decide +kernel
theorem d153_26 : decode prog_10_method_17_code 26 = .ok (.goto (-22), 3) := by decide +kernel
theorem d153_29 : decode prog_10_method_17_code 29 = .ok (.iload_n 1, 1) := by decide +kernel
theorem d153_30 : decode prog_10_method_17_code 30 = .ok (.ireturn, 1) := by decide +kernel
set_option maxRecDepth 100000 in
theorem q154 : xMc 154 = prog_10_method_18_code := rfl
theorem m154 : xMl 154 = 8 ∧ xMret 154 = (some FieldType.long) ∧ xMh 154 = [] := by decide +kernel
theorem e154 {X : xX} {d : Nat} {w : xH} {Q : xO → xH → Prop} (a : Nat) (x0 : Int32) (x1 : Int32) (x2 : Int32) : Cw X d 154 [.ref a, .int x0, .int x1, .int x2] w Q = Wx X d 154 0 [some (.ref a), some (.int x0), some (.int x1), some (.int x2), none, none, none, none] [] w Q := by
  unfold Cw
  rw [m154.1]
  rfl
theorem d154_0 : decode prog_10_method_18_code 0 = .ok (.lconst 0, 1) := by decide +kernel
theorem d154_1 : decode prog_10_method_18_code 1 = .ok (.lstore 4, 2) := by decide +kernel
theorem d154_3 : decode prog_10_method_18_code 3 = .ok (.iconst 0, 1) := by decide +kernel
theorem d154_4 : decode prog_10_method_18_code 4 = .ok (.istore 6, 2) := by decide +kernel
theorem d154_6 : decode prog_10_method_18_code 6 = .ok (.iload 6, 2) := by decide +kernel
theorem d154_8 : decode prog_10_method_18_code 8 = .ok (.iload_n 3, 1) := by decide +kernel
theorem d154_9 : decode prog_10_method_18_code 9 = .ok (.if_icmp .ge 38, 3) := by decide +kernel
theorem d154_12 : decode prog_10_method_18_code 12 = .ok (.iload_n 1, 1) := by decide +kernel
theorem d154_13 : decode prog_10_method_18_code 13 = .ok (.iload_n 2, 1) := by decide +kernel
theorem d154_14 : decode prog_10_method_18_code 14 = .ok (.iload 6, 2) := by decide +kernel
theorem d154_16 : decode prog_10_method_18_code 16 = .ok (.imul, 1) := by decide +kernel
theorem d154_17 : decode prog_10_method_18_code 17 = .ok (.iadd, 1) := by decide +kernel
theorem d154_18 : decode prog_10_method_18_code 18 = .ok (.istore 7, 2) := by decide +kernel
theorem d154_20 : decode prog_10_method_18_code 20 = .ok (.iload 7, 2) := by decide +kernel
theorem d154_22 : decode prog_10_method_18_code 22 = .ok (.invokestatic 38, 3) := by decide +kernel
theorem k154_38_99 : xCa (xMo 154) 38 99 = some (10, 5, 1) := by decide +kernel
theorem d154_25 : decode prog_10_method_18_code 25 = .ok (.ifCond .eq 16, 3) := by decide +kernel
theorem d154_28 : decode prog_10_method_18_code 28 = .ok (.lload 4, 2) := by decide +kernel
theorem d154_30 : decode prog_10_method_18_code 30 = .ok (.aload_n 0, 1) := by decide +kernel
theorem d154_31 : decode prog_10_method_18_code 31 = .ok (.getfield 15, 3) := by decide +kernel
theorem f154_15 : xFd (xMo 154) 15 = some (9, 1) := by decide +kernel
theorem d154_34 : decode prog_10_method_18_code 34 = .ok (.iload 7, 2) := by decide +kernel
theorem d154_36 : decode prog_10_method_18_code 36 = .ok (.iaload, 1) := by decide +kernel
theorem d154_37 : decode prog_10_method_18_code 37 = .ok (.i2l, 1) := by decide +kernel
theorem d154_38 : decode prog_10_method_18_code 38 = .ok (.ladd, 1) := by decide +kernel
theorem d154_39 : decode prog_10_method_18_code 39 = .ok (.lstore 4, 2) := by decide +kernel
theorem d154_41 : decode prog_10_method_18_code 41 = .ok (.iinc 6 1, 3) := by decide +kernel
theorem d154_44 : decode prog_10_method_18_code 44 = .ok (.goto (-38), 3) := by decide +kernel
theorem d154_47 : decode prog_10_method_18_code 47 = .ok (.lload 4, 2) := by decide +kernel
theorem d154_49 : decode prog_10_method_18_code 49 = .ok (.lreturn, 1) := by decide +kernel
set_option maxRecDepth 100000 in
theorem q155 : xMc 155 = prog_10_method_19_code := rfl
theorem m155 : xMl 155 = 3 ∧ xMret 155 = (some FieldType.int) ∧ xMh 155 = [] := by decide +kernel
theorem e155 {X : xX} {d : Nat} {w : xH} {Q : xO → xH → Prop} (a : Nat) (x0 : Int32) : Cw X d 155 [.ref a, .int x0] w Q = Wx X d 155 0 [some (.ref a), some (.int x0), none] [] w Q := by
  unfold Cw
  rw [m155.1]
  rfl
theorem d155_0 : decode prog_10_method_19_code 0 = .ok (.iconst 0, 1) := by decide +kernel
theorem d155_1 : decode prog_10_method_19_code 1 = .ok (.istore_n 2, 1) := by decide +kernel
theorem d155_2 : decode prog_10_method_19_code 2 = .ok (.iload_n 2, 1) := by decide +kernel
theorem d155_3 : decode prog_10_method_19_code 3 = .ok (.sipush 200, 3) := by decide +kernel
theorem d155_6 : decode prog_10_method_19_code 6 = .ok (.if_icmp .ge 39, 3) := by decide +kernel
theorem d155_9 : decode prog_10_method_19_code 9 = .ok (.aload_n 0, 1) := by decide +kernel
theorem d155_10 : decode prog_10_method_19_code 10 = .ok (.getfield 9, 3) := by decide +kernel
theorem f155_9 : xFd (xMo 155) 9 = some (9, 0) := by decide +kernel
theorem d155_13 : decode prog_10_method_19_code 13 = .ok (.iload_n 2, 1) := by decide +kernel
theorem d155_14 : decode prog_10_method_19_code 14 = .ok (.iaload, 1) := by decide +kernel
theorem d155_15 : decode prog_10_method_19_code 15 = .ok (.ifCond .eq 24, 3) := by decide +kernel
theorem d155_18 : decode prog_10_method_19_code 18 = .ok (.aload_n 0, 1) := by decide +kernel
theorem d155_19 : decode prog_10_method_19_code 19 = .ok (.getfield 18, 3) := by decide +kernel
theorem f155_18 : xFd (xMo 155) 18 = some (9, 2) := by decide +kernel
theorem d155_22 : decode prog_10_method_19_code 22 = .ok (.iload_n 2, 1) := by decide +kernel
theorem d155_23 : decode prog_10_method_19_code 23 = .ok (.iaload, 1) := by decide +kernel
theorem d155_24 : decode prog_10_method_19_code 24 = .ok (.ifCond .ne 15, 3) := by decide +kernel
theorem d155_27 : decode prog_10_method_19_code 27 = .ok (.aload_n 0, 1) := by decide +kernel
theorem d155_28 : decode prog_10_method_19_code 28 = .ok (.getfield 15, 3) := by decide +kernel
theorem f155_15 : xFd (xMo 155) 15 = some (9, 1) := by decide +kernel
theorem d155_31 : decode prog_10_method_19_code 31 = .ok (.iload_n 2, 1) := by decide +kernel
theorem d155_32 : decode prog_10_method_19_code 32 = .ok (.iaload, 1) := by decide +kernel
theorem d155_33 : decode prog_10_method_19_code 33 = .ok (.iload_n 1, 1) := by decide +kernel
theorem d155_34 : decode prog_10_method_19_code 34 = .ok (.if_icmp .ne 5, 3) := by decide +kernel
theorem d155_37 : decode prog_10_method_19_code 37 = .ok (.iload_n 2, 1) := by decide +kernel
theorem d155_38 : decode prog_10_method_19_code 38 = .ok (.ireturn, 1) := by decide +kernel
theorem d155_39 : decode prog_10_method_19_code 39 = .ok (.iinc 2 1, 3) := by decide +kernel
theorem d155_42 : decode prog_10_method_19_code 42 = .ok (.goto (-40), 3) := by decide +kernel
theorem d155_45 : decode prog_10_method_19_code 45 = .ok (.iconst (-1), 1) := by decide +kernel
theorem d155_46 : decode prog_10_method_19_code 46 = .ok (.ireturn, 1) := by decide +kernel
set_option maxRecDepth 100000 in
theorem q156 : xMc 156 = prog_10_method_4_code := rfl
theorem m156 : xMl 156 = 3 ∧ xMret 156 = none ∧ xMh 156 = [] := by decide +kernel
theorem e156 {X : xX} {d : Nat} {w : xH} {Q : xO → xH → Prop} (a : Nat) (x0 : Int32) (x1 : Nat) : Cw X d 156 [.ref a, .int x0, .ref x1] w Q = Wx X d 156 0 [some (.ref a), some (.int x0), some (.ref x1)] [] w Q := by
  unfold Cw
  rw [m156.1]
  rfl
theorem d156_0 : decode prog_10_method_4_code 0 = .ok (.iload_n 1, 1) := by decide +kernel
theorem d156_1 : decode prog_10_method_4_code 1 = .ok (.invokestatic 38, 3) := by decide +kernel
theorem k156_38_99 : xCa (xMo 156) 38 99 = some (10, 5, 1) := by decide +kernel
theorem d156_4 : decode prog_10_method_4_code 4 = .ok (.ifCond .ne 4, 3) := by decide +kernel
theorem d156_7 : decode prog_10_method_4_code 7 = .ok (.return_, 1) := by decide +kernel
theorem d156_8 : decode prog_10_method_4_code 8 = .ok (.aload_n 0, 1) := by decide +kernel
theorem d156_9 : decode prog_10_method_4_code 9 = .ok (.getfield 9, 3) := by decide +kernel
theorem f156_9 : xFd (xMo 156) 9 = some (9, 0) := by decide +kernel
theorem d156_12 : decode prog_10_method_4_code 12 = .ok (.iload_n 1, 1) := by decide +kernel
theorem d156_13 : decode prog_10_method_4_code 13 = .ok (.aload_n 2, 1) := by decide +kernel
theorem d156_14 : decode prog_10_method_4_code 14 = .ok (.getfield 46, 3) := by decide +kernel
theorem f156_46 : xFd (xMo 156) 46 = some (8, 3) := by decide +kernel
theorem d156_17 : decode prog_10_method_4_code 17 = .ok (.iastore, 1) := by decide +kernel
theorem d156_18 : decode prog_10_method_4_code 18 = .ok (.aload_n 0, 1) := by decide +kernel
theorem d156_19 : decode prog_10_method_4_code 19 = .ok (.getfield 15, 3) := by decide +kernel
theorem f156_15 : xFd (xMo 156) 15 = some (9, 1) := by decide +kernel
theorem d156_22 : decode prog_10_method_4_code 22 = .ok (.iload_n 1, 1) := by decide +kernel
theorem d156_23 : decode prog_10_method_4_code 23 = .ok (.aload_n 2, 1) := by decide +kernel
theorem d156_24 : decode prog_10_method_4_code 24 = .ok (.getfield 51, 3) := by decide +kernel
theorem f156_51 : xFd (xMo 156) 51 = some (8, 4) := by decide +kernel
theorem d156_27 : decode prog_10_method_4_code 27 = .ok (.iastore, 1) := by decide +kernel
theorem d156_28 : decode prog_10_method_4_code 28 = .ok (.aload_n 0, 1) := by decide +kernel
theorem d156_29 : decode prog_10_method_4_code 29 = .ok (.getfield 18, 3) := by decide +kernel
theorem f156_18 : xFd (xMo 156) 18 = some (9, 2) := by decide +kernel
theorem d156_32 : decode prog_10_method_4_code 32 = .ok (.iload_n 1, 1) := by decide +kernel
theorem d156_33 : decode prog_10_method_4_code 33 = .ok (.iconst 0, 1) := by decide +kernel
theorem d156_34 : decode prog_10_method_4_code 34 = .ok (.iastore, 1) := by decide +kernel
theorem d156_35 : decode prog_10_method_4_code 35 = .ok (.aload_n 0, 1) := by decide +kernel
theorem d156_36 : decode prog_10_method_4_code 36 = .ok (.iload_n 1, 1) := by decide +kernel
theorem d156_37 : decode prog_10_method_4_code 37 = .ok (.aload_n 2, 1) := by decide +kernel
theorem d156_38 : decode prog_10_method_4_code 38 = .ok (.getfield 54, 3) := by decide +kernel
theorem f156_54 : xFd (xMo 156) 54 = some (8, 5) := by decide +kernel
theorem d156_41 : decode prog_10_method_4_code 41 = .ok (.iconst 0, 1) := by decide +kernel
theorem d156_42 : decode prog_10_method_4_code 42 = .ok (.aload_n 2, 1) := by decide +kernel
theorem d156_43 : decode prog_10_method_4_code 43 = .ok (.getfield 55, 3) := by decide +kernel
theorem f156_55 : xFd (xMo 156) 55 = some (8, 6) := by decide +kernel
theorem d156_46 : decode prog_10_method_4_code 46 = .ok (.invokevirtual 42, 3) := by decide +kernel
theorem k156_42_9 : xCa (xMo 156) 42 9 = some (1, 151, 4) := by decide +kernel
theorem n156_42 : xcn (xMo 156) 42 = some 4 := by decide +kernel
theorem d156_49 : decode prog_10_method_4_code 49 = .ok (.return_, 1) := by decide +kernel
set_option maxRecDepth 100000 in
theorem q157 : xMc 157 = prog_10_method_9_code := rfl
theorem m157 : xMl 157 = 4 ∧ xMret 157 = none ∧ xMh 157 = [] := by decide +kernel
theorem e157 {X : xX} {d : Nat} {w : xH} {Q : xO → xH → Prop} (a : Nat) (x0 : Int32) (x1 : Int32) (x2 : Int32) : Cw X d 157 [.ref a, .int x0, .int x1, .int x2] w Q = Wx X d 157 0 [some (.ref a), some (.int x0), some (.int x1), some (.int x2)] [] w Q := by
  unfold Cw
  rw [m157.1]
  rfl
theorem d157_0 : decode prog_10_method_9_code 0 = .ok (.iload_n 1, 1) := by decide +kernel
theorem d157_1 : decode prog_10_method_9_code 1 = .ok (.invokestatic 38, 3) := by decide +kernel
theorem k157_38_99 : xCa (xMo 157) 38 99 = some (10, 5, 1) := by decide +kernel
theorem d157_4 : decode prog_10_method_9_code 4 = .ok (.ifCond .eq 25, 3) := by decide +kernel
theorem d157_7 : decode prog_10_method_9_code 7 = .ok (.aload_n 0, 1) := by decide +kernel
theorem d157_8 : decode prog_10_method_9_code 8 = .ok (.getfield 15, 3) := by decide +kernel
theorem f157_15 : xFd (xMo 157) 15 = some (9, 1) := by decide +kernel
theorem d157_11 : decode prog_10_method_9_code 11 = .ok (.iload_n 1, 1) := by decide +kernel
theorem d157_12 : decode prog_10_method_9_code 12 = .ok (.iload_n 3, 1) := by decide +kernel
theorem d157_13 : decode prog_10_method_9_code 13 = .ok (.ifCond .ne 7, 3) := by decide +kernel
theorem d157_16 : decode prog_10_method_9_code 16 = .ok (.iload_n 2, 1) := by decide +kernel
theorem d157_17 : decode prog_10_method_9_code 17 = .ok (.goto 4, 3) := by decide +kernel
theorem d157_20 : decode prog_10_method_9_code 20 = .ok (.iconst 0, 1) := by decide +kernel
theorem d157_21 : decode prog_10_method_9_code 21 = .ok (.iastore, 1) := by decide +kernel
theorem d157_22 : decode prog_10_method_9_code 22 = .ok (.aload_n 0, 1) := by decide +kernel
theorem d157_23 : decode prog_10_method_9_code 23 = .ok (.getfield 18, 3) := by decide +kernel
theorem f157_18 : xFd (xMo 157) 18 = some (9, 2) := by decide +kernel
theorem d157_26 : decode prog_10_method_9_code 26 = .ok (.iload_n 1, 1) := by decide +kernel
theorem d157_27 : decode prog_10_method_9_code 27 = .ok (.iload_n 3, 1) := by decide +kernel
theorem d157_28 : decode prog_10_method_9_code 28 = .ok (.iastore, 1) := by decide +kernel
theorem d157_29 : decode prog_10_method_9_code 29 = .ok (.return_, 1) := by decide +kernel
set_option maxRecDepth 100000 in
theorem q158 : xMc 158 = prog_10_method_10_code := rfl
theorem m158 : xMl 158 = 2 ∧ xMret 158 = none ∧ xMh 158 = [] := by decide +kernel
theorem e158 {X : xX} {d : Nat} {w : xH} {Q : xO → xH → Prop} (a : Nat) (x0 : Int32) : Cw X d 158 [.ref a, .int x0] w Q = Wx X d 158 0 [some (.ref a), some (.int x0)] [] w Q := by
  unfold Cw
  rw [m158.1]
  rfl
theorem d158_0 : decode prog_10_method_10_code 0 = .ok (.aload_n 0, 1) := by decide +kernel
theorem d158_1 : decode prog_10_method_10_code 1 = .ok (.iload_n 1, 1) := by decide +kernel
theorem d158_2 : decode prog_10_method_10_code 2 = .ok (.putfield 31, 3) := by decide +kernel
theorem f158_31 : xFd (xMo 158) 31 = some (9, 5) := by decide +kernel
theorem d158_5 : decode prog_10_method_10_code 5 = .ok (.aload_n 0, 1) := by decide +kernel
theorem d158_6 : decode prog_10_method_10_code 6 = .ok (.dup, 1) := by decide +kernel
theorem d158_7 : decode prog_10_method_10_code 7 = .ok (.getfield 35, 3) := by decide +kernel
theorem f158_35 : xFd (xMo 158) 35 = some (9, 6) := by decide +kernel
theorem d158_10 : decode prog_10_method_10_code 10 = .ok (.iload_n 1, 1) := by decide +kernel
theorem d158_11 : decode prog_10_method_10_code 11 = .ok (.iadd, 1) := by decide +kernel
theorem d158_12 : decode prog_10_method_10_code 12 = .ok (.putfield 35, 3) := by decide +kernel
theorem d158_15 : decode prog_10_method_10_code 15 = .ok (.return_, 1) := by decide +kernel
set_option maxRecDepth 100000 in
theorem q159 : xMc 159 = prog_10_method_6_code := rfl
theorem m159 : xMl 159 = 3 ∧ xMret 159 = none ∧ xMh 159 = [] := by decide +kernel
theorem e159 {X : xX} {d : Nat} {w : xH} {Q : xO → xH → Prop} (a : Nat) (x0 : Int32) (x1 : Int32) : Cw X d 159 [.ref a, .int x0, .int x1] w Q = Wx X d 159 0 [some (.ref a), some (.int x0), some (.int x1)] [] w Q := by
  unfold Cw
  rw [m159.1]
  rfl
theorem d159_0 : decode prog_10_method_6_code 0 = .ok (.aload_n 0, 1) := by decide +kernel
theorem d159_1 : decode prog_10_method_6_code 1 = .ok (.iload_n 1, 1) := by decide +kernel
theorem d159_2 : decode prog_10_method_6_code 2 = .ok (.iconst 1, 1) := by decide +kernel
theorem d159_3 : decode prog_10_method_6_code 3 = .ok (.iload_n 2, 1) := by decide +kernel
theorem d159_4 : decode prog_10_method_6_code 4 = .ok (.invokevirtual 67, 3) := by decide +kernel
theorem k159_67_9 : xCa (xMo 159) 67 9 = some (1, 160, 3) := by decide +kernel
theorem n159_67 : xcn (xMo 159) 67 = some 3 := by decide +kernel
theorem d159_7 : decode prog_10_method_6_code 7 = .ok (.return_, 1) := by decide +kernel
set_option maxRecDepth 100000 in
theorem q160 : xMc 160 = prog_10_method_8_code := rfl
theorem m160 : xMl 160 = 4 ∧ xMret 160 = none ∧ xMh 160 = [] := by decide +kernel
theorem e160 {X : xX} {d : Nat} {w : xH} {Q : xO → xH → Prop} (a : Nat) (x0 : Int32) (x1 : Int32) (x2 : Int32) : Cw X d 160 [.ref a, .int x0, .int x1, .int x2] w Q = Wx X d 160 0 [some (.ref a), some (.int x0), some (.int x1), some (.int x2)] [] w Q := by
  unfold Cw
  rw [m160.1]
  rfl
theorem d160_0 : decode prog_10_method_8_code 0 = .ok (.iload_n 1, 1) := by decide +kernel
theorem d160_1 : decode prog_10_method_8_code 1 = .ok (.invokestatic 38, 3) := by decide +kernel
theorem k160_38_99 : xCa (xMo 160) 38 99 = some (10, 5, 1) := by decide +kernel
theorem d160_4 : decode prog_10_method_8_code 4 = .ok (.ifCond .eq 31, 3) := by decide +kernel
theorem d160_7 : decode prog_10_method_8_code 7 = .ok (.aload_n 0, 1) := by decide +kernel
theorem d160_8 : decode prog_10_method_8_code 8 = .ok (.getfield 9, 3) := by decide +kernel
theorem f160_9 : xFd (xMo 160) 9 = some (9, 0) := by decide +kernel
theorem d160_11 : decode prog_10_method_8_code 11 = .ok (.iload_n 1, 1) := by decide +kernel
theorem d160_12 : decode prog_10_method_8_code 12 = .ok (.iload_n 2, 1) := by decide +kernel
theorem d160_13 : decode prog_10_method_8_code 13 = .ok (.iastore, 1) := by decide +kernel
theorem d160_14 : decode prog_10_method_8_code 14 = .ok (.aload_n 0, 1) := by decide +kernel
theorem d160_15 : decode prog_10_method_8_code 15 = .ok (.getfield 15, 3) := by decide +kernel
theorem f160_15 : xFd (xMo 160) 15 = some (9, 1) := by decide +kernel
theorem d160_18 : decode prog_10_method_8_code 18 = .ok (.iload_n 1, 1) := by decide +kernel
theorem d160_19 : decode prog_10_method_8_code 19 = .ok (.iload_n 3, 1) := by decide +kernel
theorem d160_20 : decode prog_10_method_8_code 20 = .ok (.iastore, 1) := by decide +kernel
theorem d160_21 : decode prog_10_method_8_code 21 = .ok (.aload_n 0, 1) := by decide +kernel
theorem d160_22 : decode prog_10_method_8_code 22 = .ok (.getfield 18, 3) := by decide +kernel
theorem f160_18 : xFd (xMo 160) 18 = some (9, 2) := by decide +kernel
theorem d160_25 : decode prog_10_method_8_code 25 = .ok (.iload_n 1, 1) := by decide +kernel
theorem d160_26 : decode prog_10_method_8_code 26 = .ok (.iconst 0, 1) := by decide +kernel
theorem d160_27 : decode prog_10_method_8_code 27 = .ok (.iastore, 1) := by decide +kernel
theorem d160_28 : decode prog_10_method_8_code 28 = .ok (.aload_n 0, 1) := by decide +kernel
theorem d160_29 : decode prog_10_method_8_code 29 = .ok (.getfield 21, 3) := by decide +kernel
theorem f160_21 : xFd (xMo 160) 21 = some (9, 3) := by decide +kernel
theorem d160_32 : decode prog_10_method_8_code 32 = .ok (.iload_n 1, 1) := by decide +kernel
theorem d160_33 : decode prog_10_method_8_code 33 = .ok (.iconst 0, 1) := by decide +kernel
theorem d160_34 : decode prog_10_method_8_code 34 = .ok (.iastore, 1) := by decide +kernel
theorem d160_35 : decode prog_10_method_8_code 35 = .ok (.return_, 1) := by decide +kernel
set_option maxRecDepth 100000 in
theorem q161 : xMc 161 = prog_10_method_7_code := rfl
theorem m161 : xMl 161 = 2 ∧ xMret 161 = none ∧ xMh 161 = [] := by decide +kernel
theorem e161 {X : xX} {d : Nat} {w : xH} {Q : xO → xH → Prop} (a : Nat) (x0 : Int32) : Cw X d 161 [.ref a, .int x0] w Q = Wx X d 161 0 [some (.ref a), some (.int x0)] [] w Q := by
  unfold Cw
  rw [m161.1]
  rfl
theorem d161_0 : decode prog_10_method_7_code 0 = .ok (.aload_n 0, 1) := by decide +kernel
theorem d161_1 : decode prog_10_method_7_code 1 = .ok (.iload_n 1, 1) := by decide +kernel
theorem d161_2 : decode prog_10_method_7_code 2 = .ok (.iconst 0, 1) := by decide +kernel
theorem d161_3 : decode prog_10_method_7_code 3 = .ok (.iconst 0, 1) := by decide +kernel
theorem d161_4 : decode prog_10_method_7_code 4 = .ok (.invokevirtual 67, 3) := by decide +kernel
theorem k161_67_9 : xCa (xMo 161) 67 9 = some (1, 160, 3) := by decide +kernel
theorem n161_67 : xcn (xMo 161) 67 = some 3 := by decide +kernel
theorem d161_7 : decode prog_10_method_7_code 7 = .ok (.return_, 1) := by decide +kernel
set_option maxRecDepth 100000 in
theorem q162 : xMc 162 = prog_10_method_11_code := rfl
theorem m162 : xMl 162 = 8 ∧ xMret 162 = (some FieldType.int) ∧ xMh 162 = [] := by decide +kernel
theorem e162 {X : xX} {d : Nat} {w : xH} {Q : xO → xH → Prop} (a : Nat) (x0 : Int32) (x1 : Nat) : Cw X d 162 [.ref a, .int x0, .ref x1] w Q = Wx X d 162 0 [some (.ref a), some (.int x0), some (.ref x1), none, none, none, none, none] [] w Q := by
  unfold Cw
  rw [m162.1]
  rfl
theorem d162_0 : decode prog_10_method_11_code 0 = .ok (.iconst 0, 1) := by decide +kernel
theorem d162_1 : decode prog_10_method_11_code 1 = .ok (.istore_n 3, 1) := by decide +kernel
theorem d162_2 : decode prog_10_method_11_code 2 = .ok (.iload_n 1, 1) := by decide +kernel
theorem d162_3 : decode prog_10_method_11_code 3 = .ok (.bipush 60, 2) := by decide +kernel
theorem d162_5 : decode prog_10_method_11_code 5 = .ok (.imul, 1) := by decide +kernel
theorem d162_6 : decode prog_10_method_11_code 6 = .ok (.istore 4, 2) := by decide +kernel
theorem d162_8 : decode prog_10_method_11_code 8 = .ok (.iconst 0, 1) := by decide +kernel
theorem d162_9 : decode prog_10_method_11_code 9 = .ok (.istore 5, 2) := by decide +kernel
theorem d162_11 : decode prog_10_method_11_code 11 = .ok (.iload 5, 2) := by decide +kernel
theorem d162_13 : decode prog_10_method_11_code 13 = .ok (.aload_n 0, 1) := by decide +kernel
theorem d162_14 : decode prog_10_method_11_code 14 = .ok (.getfield 21, 3) := by decide +kernel
theorem f162_21 : xFd (xMo 162) 21 = some (9, 3) := by decide +kernel
theorem d162_17 : decode prog_10_method_11_code 17 = .ok (.iload_n 1, 1) := by decide +kernel
theorem d162_18 : decode prog_10_method_11_code 18 = .ok (.iaload, 1) := by decide +kernel
theorem d162_19 : decode prog_10_method_11_code 19 = .ok (.if_icmp .ge 51, 3) := by decide +kernel
theorem d162_22 : decode prog_10_method_11_code 22 = .ok (.aload_n 0, 1) := by decide +kernel
theorem d162_23 : decode prog_10_method_11_code 23 = .ok (.getfield 24, 3) := by decide +kernel
theorem f162_24 : xFd (xMo 162) 24 = some (9, 4) := by decide +kernel
theorem d162_26 : decode prog_10_method_11_code 26 = .ok (.iload 4, 2) := by decide +kernel
theorem d162_28 : decode prog_10_method_11_code 28 = .ok (.iload 5, 2) := by decide +kernel
theorem d162_30 : decode prog_10_method_11_code 30 = .ok (.iadd, 1) := by decide +kernel
theorem d162_31 : decode prog_10_method_11_code 31 = .ok (.iaload, 1) := by decide +kernel
theorem d162_32 : decode prog_10_method_11_code 32 = .ok (.istore 6, 2) := by decide +kernel
theorem d162_34 : decode prog_10_method_11_code 34 = .ok (.aload_n 2, 1) := by decide +kernel
theorem d162_35 : decode prog_10_method_11_code 35 = .ok (.iload 6, 2) := by decide +kernel
theorem d162_37 : decode prog_10_method_11_code 37 = .ok (.invokevirtual 71, 3) := by decide +kernel
theorem k162_71_3 : xCa (xMo 162) 71 3 = some (5, 147, 1) := by decide +kernel
theorem k162_71_5 : xCa (xMo 162) 71 5 = some (5, 147, 1) := by decide +kernel
theorem k162_71_7 : xCa (xMo 162) 71 7 = some (5, 147, 1) := by decide +kernel
theorem n162_71 : xcn (xMo 162) 71 = some 1 := by decide +kernel
theorem d162_40 : decode prog_10_method_11_code 40 = .ok (.istore 7, 2) := by decide +kernel
theorem d162_42 : decode prog_10_method_11_code 42 = .ok (.iload 7, 2) := by decide +kernel
theorem d162_44 : decode prog_10_method_11_code 44 = .ok (.iload 6, 2) := by decide +kernel
theorem d162_46 : decode prog_10_method_11_code 46 = .ok (.if_icmp .eq 18, 3) := by decide +kernel
theorem d162_49 : decode prog_10_method_11_code 49 = .ok (.aload_n 0, 1) := by decide +kernel
theorem d162_50 : decode prog_10_method_11_code 50 = .ok (.getfield 24, 3) := by decide +kernel
theorem d162_53 : decode prog_10_method_11_code 53 = .ok (.iload 4, 2) := by decide +kernel
theorem d162_55 : decode prog_10_method_11_code 55 = .ok (.iload 5, 2) := by decide +kernel
theorem d162_57 : decode prog_10_method_11_code 57 = .ok (.iadd, 1) := by decide +kernel
theorem d162_58 : decode prog_10_method_11_code 58 = .ok (.iload 7, 2) := by decide +kernel
theorem d162_60 : decode prog_10_method_11_code 60 = .ok (.iastore, 1) := by decide +kernel
theorem d162_61 : decode prog_10_method_11_code 61 = .ok (.iinc 3 1, 3) := by decide +kernel
theorem d162_64 : decode prog_10_method_11_code 64 = .ok (.iinc 5 1, 3) := by decide +kernel
theorem d162_67 : decode prog_10_method_11_code 67 = .ok (.goto (-56), 3) := by decide +kernel
theorem d162_70 : decode prog_10_method_11_code 70 = .ok (.iload_n 3, 1) := by decide +kernel
theorem d162_71 : decode prog_10_method_11_code 71 = .ok (.ireturn, 1) := by decide +kernel
set_option maxRecDepth 100000 in
theorem q163 : xMc 163 = prog_10_method_12_code := rfl
theorem m163 : xMl 163 = 4 ∧ xMret 163 = (some FieldType.int) ∧ xMh 163 = [] := by decide +kernel
theorem e163 {X : xX} {d : Nat} {w : xH} {Q : xO → xH → Prop} (a : Nat) (x0 : Nat) : Cw X d 163 [.ref a, .ref x0] w Q = Wx X d 163 0 [some (.ref a), some (.ref x0), none, none] [] w Q := by
  unfold Cw
  rw [m163.1]
  rfl
theorem d163_0 : decode prog_10_method_12_code 0 = .ok (.iconst 0, 1) := by decide +kernel
theorem d163_1 : decode prog_10_method_12_code 1 = .ok (.istore_n 2, 1) := by decide +kernel
theorem d163_2 : decode prog_10_method_12_code 2 = .ok (.iconst 0, 1) := by decide +kernel
theorem d163_3 : decode prog_10_method_12_code 3 = .ok (.istore_n 3, 1) := by decide +kernel
theorem d163_4 : decode prog_10_method_12_code 4 = .ok (.iload_n 3, 1) := by decide +kernel
theorem d163_5 : decode prog_10_method_12_code 5 = .ok (.sipush 200, 3) := by decide +kernel
theorem d163_8 : decode prog_10_method_12_code 8 = .ok (.if_icmp .ge 18, 3) := by decide +kernel
theorem d163_11 : decode prog_10_method_12_code 11 = .ok (.iload_n 2, 1) := by decide +kernel
theorem d163_12 : decode prog_10_method_12_code 12 = .ok (.aload_n 0, 1) := by decide +kernel
theorem d163_13 : decode prog_10_method_12_code 13 = .ok (.iload_n 3, 1) := by decide +kernel
theorem d163_14 : decode prog_10_method_12_code 14 = .ok (.aload_n 1, 1) := by decide +kernel
theorem d163_15 : decode prog_10_method_12_code 15 = .ok (.invokevirtual 77, 3) := by decide +kernel
theorem k163_77_9 : xCa (xMo 163) 77 9 = some (1, 162, 2) := by decide +kernel
theorem n163_77 : xcn (xMo 163) 77 = some 2 := by decide +kernel
theorem d163_18 : decode prog_10_method_12_code 18 = .ok (.iadd, 1) := by decide +kernel
theorem d163_19 : decode prog_10_method_12_code 19 = .ok (.istore_n 2, 1) := by decide +kernel
theorem d163_20 : decode prog_10_method_12_code 20 = .ok (.iinc 3 1, 3) := by decide +kernel
theorem d163_23 : decode prog_10_method_12_code 23 = .ok (.goto (-19), 3) := by decide +kernel
theorem d163_26 : decode prog_10_method_12_code 26 = .ok (.iload_n 2, 1) := by decide +kernel
theorem d163_27 : decode prog_10_method_12_code 27 = .ok (.ireturn, 1) := by decide +kernel
set_option maxRecDepth 100000 in
theorem q164 : xMc 164 = prog_10_method_15_code := rfl
theorem m164 : xMl 164 = 4 ∧ xMret 164 = (some FieldType.boolean) ∧ xMh 164 = [] := by decide +kernel
theorem e164 {X : xX} {d : Nat} {w : xH} {Q : xO → xH → Prop} (a : Nat) (x0 : Nat) (x1 : Int32) : Cw X d 164 [.ref a, .ref x0, .int x1] w Q = Wx X d 164 0 [some (.ref a), some (.ref x0), some (.int x1), none] [] w Q := by
  unfold Cw
  rw [m164.1]
  rfl
theorem d164_0 : decode prog_10_method_15_code 0 = .ok (.iconst 0, 1) := by decide +kernel
theorem d164_1 : decode prog_10_method_15_code 1 = .ok (.istore_n 3, 1) := by decide +kernel
theorem d164_2 : decode prog_10_method_15_code 2 = .ok (.iload_n 3, 1) := by decide +kernel
theorem d164_3 : decode prog_10_method_15_code 3 = .ok (.sipush 200, 3) := by decide +kernel
theorem d164_6 : decode prog_10_method_15_code 6 = .ok (.if_icmp .ge 29, 3) := by decide +kernel
theorem d164_9 : decode prog_10_method_15_code 9 = .ok (.aload_n 0, 1) := by decide +kernel
theorem d164_10 : decode prog_10_method_15_code 10 = .ok (.getfield 9, 3) := by decide +kernel
theorem f164_9 : xFd (xMo 164) 9 = some (9, 0) := by decide +kernel
theorem d164_13 : decode prog_10_method_15_code 13 = .ok (.iload_n 3, 1) := by decide +kernel
theorem d164_14 : decode prog_10_method_15_code 14 = .ok (.iaload, 1) := by decide +kernel
theorem d164_15 : decode prog_10_method_15_code 15 = .ok (.ifCond .eq 14, 3) := by decide +kernel
theorem d164_18 : decode prog_10_method_15_code 18 = .ok (.aload_n 1, 1) := by decide +kernel
theorem d164_19 : decode prog_10_method_15_code 19 = .ok (.iload_n 3, 1) := by decide +kernel
theorem d164_20 : decode prog_10_method_15_code 20 = .ok (.invokevirtual 93, 3) := by decide +kernel
theorem k164_93_5 : xCa (xMo 164) 93 5 = some (1, 93, 1) := by decide +kernel
theorem n164_93 : xcn (xMo 164) 93 = some 1 := by decide +kernel
theorem d164_23 : decode prog_10_method_15_code 23 = .ok (.iload_n 2, 1) := by decide +kernel
theorem d164_24 : decode prog_10_method_15_code 24 = .ok (.if_icmp .ne 5, 3) := by decide +kernel
theorem d164_27 : decode prog_10_method_15_code 27 = .ok (.iconst 1, 1) := by decide +kernel
theorem d164_28 : decode prog_10_method_15_code 28 = .ok (.ireturn, 1) := by decide +kernel
theorem d164_29 : decode prog_10_method_15_code 29 = .ok (.iinc 3 1, 3) := by decide +kernel
theorem d164_32 : decode prog_10_method_15_code 32 = .ok (.goto (-30), 3) := by decide +kernel
theorem d164_35 : decode prog_10_method_15_code 35 = .ok (.iconst 0, 1) := by decide +kernel
theorem d164_36 : decode prog_10_method_15_code 36 = .ok (.ireturn, 1) := by decide +kernel
set_option maxRecDepth 100000 in
theorem q165 : xMc 165 = prog_10_method_16_code := rfl
theorem m165 : xMl 165 = 6 ∧ xMret 165 = (some FieldType.int) ∧ xMh 165 = [] := by decide +kernel
theorem e165 {X : xX} {d : Nat} {w : xH} {Q : xO → xH → Prop} (a : Nat) (x0 : Nat) : Cw X d 165 [.ref a, .ref x0] w Q = Wx X d 165 0 [some (.ref a), some (.ref x0), none, none, none, none] [] w Q := by
  unfold Cw
  rw [m165.1]
  rfl
theorem d165_0 : decode prog_10_method_16_code 0 = .ok (.iconst 0, 1) := by decide +kernel
theorem d165_1 : decode prog_10_method_16_code 1 = .ok (.istore_n 2, 1) := by decide +kernel
theorem d165_2 : decode prog_10_method_16_code 2 = .ok (.iconst 0, 1) := by decide +kernel
theorem d165_3 : decode prog_10_method_16_code 3 = .ok (.istore_n 3, 1) := by decide +kernel
theorem d165_4 : decode prog_10_method_16_code 4 = .ok (.iload_n 3, 1) := by decide +kernel
theorem d165_5 : decode prog_10_method_16_code 5 = .ok (.sipush 200, 3) := by decide +kernel
theorem d165_8 : decode prog_10_method_16_code 8 = .ok (.if_icmp .ge 73, 3) := by decide +kernel
theorem d165_11 : decode prog_10_method_16_code 11 = .ok (.aload_n 1, 1) := by decide +kernel
theorem d165_12 : decode prog_10_method_16_code 12 = .ok (.iload_n 3, 1) := by decide +kernel
theorem d165_13 : decode prog_10_method_16_code 13 = .ok (.invokevirtual 93, 3) := by decide +kernel
theorem k165_93_5 : xCa (xMo 165) 93 5 = some (1, 93, 1) := by decide +kernel
theorem n165_93 : xcn (xMo 165) 93 = some 1 := by decide +kernel
theorem d165_16 : decode prog_10_method_16_code 16 = .ok (.istore 4, 2) := by decide +kernel
theorem d165_18 : decode prog_10_method_16_code 18 = .ok (.aload_n 1, 1) := by decide +kernel
theorem d165_19 : decode prog_10_method_16_code 19 = .ok (.getfield 98, 3) := by decide +kernel
theorem f165_98 : xFd (xMo 165) 98 = some (5, 2) := by decide +kernel
theorem d165_22 : decode prog_10_method_16_code 22 = .ok (.ifCond .eq 20, 3) := by decide +kernel
theorem d165_25 : decode prog_10_method_16_code 25 = .ok (.iload 4, 2) := by decide +kernel
theorem d165_27 : decode prog_10_method_16_code 27 = .ok (.aload_n 1, 1) := by decide +kernel
theorem d165_28 : decode prog_10_method_16_code 28 = .ok (.getfield 102, 3) := by decide +kernel
theorem f165_102 : xFd (xMo 165) 102 = some (5, 1) := by decide +kernel
theorem d165_31 : decode prog_10_method_16_code 31 = .ok (.if_icmp .lt 7, 3) := by decide +kernel
theorem d165_34 : decode prog_10_method_16_code 34 = .ok (.iconst 1, 1) := by decide +kernel
theorem d165_35 : decode prog_10_method_16_code 35 = .ok (.goto 21, 3) := by decide +kernel
theorem d165_38 : decode prog_10_method_16_code 38 = .ok (.iconst 0, 1) := by decide +kernel
theorem d165_39 : decode prog_10_method_16_code 39 = .ok (.goto 17, 3) := by decide +kernel
theorem d165_42 : decode prog_10_method_16_code 42 = .ok (.iload 4, 2) := by decide +kernel
theorem d165_44 : decode prog_10_method_16_code 44 = .ok (.aload_n 1, 1) := by decide +kernel
theorem d165_45 : decode prog_10_method_16_code 45 = .ok (.getfield 102, 3) := by decide +kernel
theorem d165_48 : decode prog_10_method_16_code 48 = .ok (.if_icmp .ne 7, 3) := by decide +kernel
theorem d165_51 : decode prog_10_method_16_code 51 = .ok (.iconst 1, 1) := by decide +kernel
theorem d165_52 : decode prog_10_method_16_code 52 = .ok (.goto 4, 3) := by decide +kernel
theorem d165_55 : decode prog_10_method_16_code 55 = .ok (.iconst 0, 1) := by decide +kernel
theorem d165_56 : decode prog_10_method_16_code 56 = .ok (.istore 5, 2) := by decide +kernel
theorem d165_58 : decode prog_10_method_16_code 58 = .ok (.iload 5, 2) := by decide +kernel
theorem d165_60 : decode prog_10_method_16_code 60 = .ok (.ifCond .eq 15, 3) := by decide +kernel
theorem d165_63 : decode prog_10_method_16_code 63 = .ok (.aload_n 0, 1) := by decide +kernel
theorem d165_64 : decode prog_10_method_16_code 64 = .ok (.getfield 9, 3) := by decide +kernel
theorem f165_9 : xFd (xMo 165) 9 = some (9, 0) := by decide +kernel
theorem d165_67 : decode prog_10_method_16_code 67 = .ok (.iload_n 3, 1) := by decide +kernel
theorem d165_68 : decode prog_10_method_16_code 68 = .ok (.iaload, 1) := by decide +kernel
theorem d165_69 : decode prog_10_method_16_code 69 = .ok (.ifCond .eq 6, 3) := by decide +kernel
theorem d165_72 : decode prog_10_method_16_code 72 = .ok (.iinc 2 1, 3) := by decide +kernel
theorem d165_75 : decode prog_10_method_16_code 75 = .ok (.iinc 3 1, 3) := by decide +kernel
theorem d165_78 : decode prog_10_method_16_code 78 = .ok (.goto (-74), 3) := by decide +kernel
theorem d165_81 : decode prog_10_method_16_code 81 = .ok (.iload_n 2, 1) := by decide +kernel
theorem d165_82 : decode prog_10_method_16_code 82 = .ok (.ireturn, 1) := by decide +kernel
set_option maxRecDepth 100000 in
theorem q166 : xMc 166 = prog_10_method_13_code := rfl
theorem m166 : xMl 166 = 5 ∧ xMret 166 = none ∧ xMh 166 = [] := by decide +kernel
theorem e166 {X : xX} {d : Nat} {w : xH} {Q : xO → xH → Prop} (a : Nat) (x0 : Int32) (x1 : Nat) : Cw X d 166 [.ref a, .int x0, .ref x1] w Q = Wx X d 166 0 [some (.ref a), some (.int x0), some (.ref x1), none, none] [] w Q := by
  unfold Cw
  rw [m166.1]
  rfl
theorem d166_0 : decode prog_10_method_13_code 0 = .ok (.aload_n 0, 1) := by decide +kernel
theorem d166_1 : decode prog_10_method_13_code 1 = .ok (.getfield 9, 3) := by decide +kernel
theorem f166_9 : xFd (xMo 166) 9 = some (9, 0) := by decide +kernel
theorem d166_4 : decode prog_10_method_13_code 4 = .ok (.iload_n 1, 1) := by decide +kernel
theorem d166_5 : decode prog_10_method_13_code 5 = .ok (.iaload, 1) := by decide +kernel
theorem d166_6 : decode prog_10_method_13_code 6 = .ok (.iconst 2, 1) := by decide +kernel
theorem d166_7 : decode prog_10_method_13_code 7 = .ok (.if_icmp .eq 4, 3) := by decide +kernel
theorem d166_10 : decode prog_10_method_13_code 10 = .ok (.return_, 1) := by decide +kernel
theorem d166_11 : decode prog_10_method_13_code 11 = .ok (.aload_n 2, 1) := by decide +kernel
theorem d166_12 : decode prog_10_method_13_code 12 = .ok (.bipush 61, 2) := by decide +kernel
theorem d166_14 : decode prog_10_method_13_code 14 = .ok (.invokevirtual 81, 3) := by decide +kernel
theorem k166_81_1 : xCa (xMo 166) 81 1 = some (1, 382, 1) := by decide +kernel
theorem n166_81 : xcn (xMo 166) 81 = some 1 := by decide +kernel
theorem d166_17 : decode prog_10_method_13_code 17 = .ok (.pop, 1) := by decide +kernel
theorem d166_18 : decode prog_10_method_13_code 18 = .ok (.iload_n 1, 1) := by decide +kernel
theorem d166_19 : decode prog_10_method_13_code 19 = .ok (.bipush 60, 2) := by decide +kernel
theorem d166_21 : decode prog_10_method_13_code 21 = .ok (.imul, 1) := by decide +kernel
theorem d166_22 : decode prog_10_method_13_code 22 = .ok (.istore_n 3, 1) := by decide +kernel
theorem d166_23 : decode prog_10_method_13_code 23 = .ok (.iconst 0, 1) := by decide +kernel
theorem d166_24 : decode prog_10_method_13_code 24 = .ok (.istore 4, 2) := by decide +kernel
theorem d166_26 : decode prog_10_method_13_code 26 = .ok (.iload 4, 2) := by decide +kernel
theorem d166_28 : decode prog_10_method_13_code 28 = .ok (.aload_n 0, 1) := by decide +kernel
theorem d166_29 : decode prog_10_method_13_code 29 = .ok (.getfield 21, 3) := by decide +kernel
theorem f166_21 : xFd (xMo 166) 21 = some (9, 3) := by decide +kernel
theorem d166_32 : decode prog_10_method_13_code 32 = .ok (.iload_n 1, 1) := by decide +kernel
theorem d166_33 : decode prog_10_method_13_code 33 = .ok (.iaload, 1) := by decide +kernel
theorem d166_34 : decode prog_10_method_13_code 34 = .ok (.if_icmp .ge 22, 3) := by decide +kernel
theorem d166_37 : decode prog_10_method_13_code 37 = .ok (.aload_n 0, 1) := by decide +kernel
theorem d166_38 : decode prog_10_method_13_code 38 = .ok (.getfield 24, 3) := by decide +kernel
theorem f166_24 : xFd (xMo 166) 24 = some (9, 4) := by decide +kernel
theorem d166_41 : decode prog_10_method_13_code 41 = .ok (.iload_n 3, 1) := by decide +kernel
theorem d166_42 : decode prog_10_method_13_code 42 = .ok (.iload 4, 2) := by decide +kernel
theorem d166_44 : decode prog_10_method_13_code 44 = .ok (.iadd, 1) := by decide +kernel
theorem d166_45 : decode prog_10_method_13_code 45 = .ok (.iaload, 1) := by decide +kernel
theorem d166_46 : decode prog_10_method_13_code 46 = .ok (.aload_n 2, 1) := by decide +kernel
theorem d166_47 : decode prog_10_method_13_code 47 = .ok (.invokestatic 87, 3) := by decide +kernel
theorem k166_87_99 : xCa (xMo 166) 87 99 = some (0, 176, 2) := by decide +kernel
theorem d166_50 : decode prog_10_method_13_code 50 = .ok (.iinc 4 1, 3) := by decide +kernel
theorem d166_53 : decode prog_10_method_13_code 53 = .ok (.goto (-27), 3) := by decide +kernel
theorem d166_56 : decode prog_10_method_13_code 56 = .ok (.return_, 1) := by decide +kernel
set_option maxRecDepth 100000 in
theorem q167 : xMc 167 = prog_11_method_2_code := rfl
theorem m167 : xMl 167 = 2 ∧ xMret 167 = (some FieldType.int) ∧ xMh 167 = [] := by decide +kernel
theorem e167 {X : xX} {d : Nat} {w : xH} {Q : xO → xH → Prop} (x0 : Int32) (x1 : Int32) : Cw X d 167 [.int x0, .int x1] w Q = Wx X d 167 0 [some (.int x0), some (.int x1)] [] w Q := by
  unfold Cw
  rw [m167.1]
  rfl
theorem d167_0 : decode prog_11_method_2_code 0 = .ok (.iload_n 1, 1) := by decide +kernel
theorem d167_1 : decode prog_11_method_2_code 1 = .ok (.bipush 8, 2) := by decide +kernel
theorem d167_3 : decode prog_11_method_2_code 3 = .ok (.imul, 1) := by decide +kernel
theorem d167_4 : decode prog_11_method_2_code 4 = .ok (.iload_n 0, 1) := by decide +kernel
theorem d167_5 : decode prog_11_method_2_code 5 = .ok (.iadd, 1) := by decide +kernel
theorem d167_6 : decode prog_11_method_2_code 6 = .ok (.ireturn, 1) := by decide +kernel
set_option maxRecDepth 100000 in
theorem q168 : xMc 168 = prog_11_method_10_code := rfl
theorem m168 : xMl 168 = 1 ∧ xMret 168 = (some (FieldType.object "java/lang/String")) ∧ xMh 168 = [] := by decide +kernel
theorem e168 {X : xX} {d : Nat} {w : xH} {Q : xO → xH → Prop} (x0 : Int32) : Cw X d 168 [.int x0] w Q = Wx X d 168 0 [some (.int x0)] [] w Q := by
  unfold Cw
  rw [m168.1]
  rfl
theorem d168_0 : decode prog_11_method_10_code 0 = .ok (.iload_n 0, 1) := by decide +kernel
theorem d168_1 : decode prog_11_method_10_code 1 = .ok (.tableswitch 50 0 4 #[35, 38, 41, 44, 47], 35) := by decide +kernel
theorem d168_36 : decode prog_11_method_10_code 36 = .ok (.ldc 22, 2) := by decide +kernel
theorem d168_38 : decode prog_11_method_10_code 38 = .ok (.areturn, 1) := by decide +kernel
theorem d168_39 : decode prog_11_method_10_code 39 = .ok (.ldc 24, 2) := by decide +kernel
theorem d168_41 : decode prog_11_method_10_code 41 = .ok (.areturn, 1) := by decide +kernel
theorem d168_42 : decode prog_11_method_10_code 42 = .ok (.ldc 26, 2) := by decide +kernel
theorem d168_44 : decode prog_11_method_10_code 44 = .ok (.areturn, 1) := by decide +kernel
theorem d168_45 : decode prog_11_method_10_code 45 = .ok (.ldc 28, 2) := by decide +kernel
theorem d168_47 : decode prog_11_method_10_code 47 = .ok (.areturn, 1) := by decide +kernel
theorem d168_48 : decode prog_11_method_10_code 48 = .ok (.ldc 30, 2) := by decide +kernel
theorem d168_50 : decode prog_11_method_10_code 50 = .ok (.areturn, 1) := by decide +kernel
theorem d168_51 : decode prog_11_method_10_code 51 = .ok (.ldc 32, 2) := by decide +kernel
theorem d168_53 : decode prog_11_method_10_code 53 = .ok (.areturn, 1) := by decide +kernel
set_option maxRecDepth 100000 in
theorem q169 : xMc 169 = prog_11_method_5_code := rfl
theorem m169 : xMl 169 = 1 ∧ xMret 169 = (some FieldType.int) ∧ xMh 169 = [] := by decide +kernel
theorem e169 {X : xX} {d : Nat} {w : xH} {Q : xO → xH → Prop} (x0 : Int32) : Cw X d 169 [.int x0] w Q = Wx X d 169 0 [some (.int x0)] [] w Q := by
  unfold Cw
  rw [m169.1]
  rfl
theorem d169_0 : decode prog_11_method_5_code 0 = .ok (.iload_n 0, 1) := by decide +kernel
theorem d169_1 : decode prog_11_method_5_code 1 = .ok (.iconst 3, 1) := by decide +kernel
theorem d169_2 : decode prog_11_method_5_code 2 = .ok (.ishr, 1) := by decide +kernel
theorem d169_3 : decode prog_11_method_5_code 3 = .ok (.ireturn, 1) := by decide +kernel
set_option maxRecDepth 100000 in
theorem q170 : xMc 170 = prog_11_method_3_code := rfl
theorem m170 : xMl 170 = 2 ∧ xMret 170 = (some FieldType.int) ∧ xMh 170 = [] := by decide +kernel
theorem e170 {X : xX} {d : Nat} {w : xH} {Q : xO → xH → Prop} (x0 : Int32) (x1 : Int32) : Cw X d 170 [.int x0, .int x1] w Q = Wx X d 170 0 [some (.int x0), some (.int x1)] [] w Q := by
  unfold Cw
  rw [m170.1]
  rfl
theorem d170_0 : decode prog_11_method_3_code 0 = .ok (.iconst 3, 1) := by decide +kernel
theorem d170_1 : decode prog_11_method_3_code 1 = .ok (.iload_n 0, 1) := by decide +kernel
theorem d170_2 : decode prog_11_method_3_code 2 = .ok (.sipush 1024, 3) := by decide +kernel
theorem d170_5 : decode prog_11_method_3_code 5 = .ok (.iload_n 1, 1) := by decide +kernel
theorem d170_6 : decode prog_11_method_3_code 6 = .ok (.imul, 1) := by decide +kernel
theorem d170_7 : decode prog_11_method_3_code 7 = .ok (.iadd, 1) := by decide +kernel
theorem d170_8 : decode prog_11_method_3_code 8 = .ok (.invokestatic 11, 3) := by decide +kernel
theorem k170_11_99 : xCa (xMo 170) 11 99 = some (0, 167, 2) := by decide +kernel
theorem d170_11 : decode prog_11_method_3_code 11 = .ok (.ireturn, 1) := by decide +kernel
set_option maxRecDepth 100000 in
theorem q171 : xMc 171 = prog_11_method_4_code := rfl
theorem m171 : xMl 171 = 1 ∧ xMret 171 = (some FieldType.int) ∧ xMh 171 = [] := by decide +kernel
theorem e171 {X : xX} {d : Nat} {w : xH} {Q : xO → xH → Prop} (x0 : Int32) : Cw X d 171 [.int x0] w Q = Wx X d 171 0 [some (.int x0)] [] w Q := by
  unfold Cw
  rw [m171.1]
  rfl
theorem d171_0 : decode prog_11_method_4_code 0 = .ok (.iload_n 0, 1) := by decide +kernel
theorem d171_1 : decode prog_11_method_4_code 1 = .ok (.bipush 7, 2) := by decide +kernel
theorem d171_3 : decode prog_11_method_4_code 3 = .ok (.iand, 1) := by decide +kernel
theorem d171_4 : decode prog_11_method_4_code 4 = .ok (.ireturn, 1) := by decide +kernel
set_option maxRecDepth 100000 in
theorem q172 : xMc 172 = prog_11_method_8_code := rfl
theorem m172 : xMl 172 = 2 ∧ xMret 172 = (some FieldType.int) ∧ xMh 172 = [] := by decide +kernel
theorem e172 {X : xX} {d : Nat} {w : xH} {Q : xO → xH → Prop} (x0 : Int32) : Cw X d 172 [.int x0] w Q = Wx X d 172 0 [some (.int x0), none] [] w Q := by
  unfold Cw
  rw [m172.1]
  rfl
theorem d172_0 : decode prog_11_method_8_code 0 = .ok (.iload_n 0, 1) := by decide +kernel
theorem d172_1 : decode prog_11_method_8_code 1 = .ok (.sipush 255, 3) := by decide +kernel
theorem d172_4 : decode prog_11_method_8_code 4 = .ok (.iand, 1) := by decide +kernel
theorem d172_5 : decode prog_11_method_8_code 5 = .ok (.istore_n 1, 1) := by decide +kernel
theorem d172_6 : decode prog_11_method_8_code 6 = .ok (.iload_n 1, 1) := by decide +kernel
theorem d172_7 : decode prog_11_method_8_code 7 = .ok (.sipush 200, 3) := by decide +kernel
theorem d172_10 : decode prog_11_method_8_code 10 = .ok (.if_icmp .ge 7, 3) := by decide +kernel
theorem d172_13 : decode prog_11_method_8_code 13 = .ok (.iload_n 1, 1) := by decide +kernel
theorem d172_14 : decode prog_11_method_8_code 14 = .ok (.goto 4, 3) := by decide +kernel
theorem d172_17 : decode prog_11_method_8_code 17 = .ok (.iconst 0, 1) := by decide +kernel
theorem d172_18 : decode prog_11_method_8_code 18 = .ok (.ireturn, 1) := by decide +kernel
set_option maxRecDepth 100000 in
theorem q173 : xMc 173 = prog_11_method_6_code := rfl
theorem m173 : xMl 173 = 1 ∧ xMret 173 = (some FieldType.int) ∧ xMh 173 = [] := by decide +kernel
theorem e173 {X : xX} {d : Nat} {w : xH} {Q : xO → xH → Prop} (x0 : Int32) : Cw X d 173 [.int x0] w Q = Wx X d 173 0 [some (.int x0)] [] w Q := by
  unfold Cw
  rw [m173.1]
  rfl
theorem d173_0 : decode prog_11_method_6_code 0 = .ok (.iload_n 0, 1) := by decide +kernel
theorem d173_1 : decode prog_11_method_6_code 1 = .ok (.invokestatic 15, 3) := by decide +kernel
theorem k173_15_99 : xCa (xMo 173) 15 99 = some (0, 169, 1) := by decide +kernel
theorem d173_4 : decode prog_11_method_6_code 4 = .ok (.sipush 1023, 3) := by decide +kernel
theorem d173_7 : decode prog_11_method_6_code 7 = .ok (.iand, 1) := by decide +kernel
theorem d173_8 : decode prog_11_method_6_code 8 = .ok (.ireturn, 1) := by decide +kernel
set_option maxRecDepth 100000 in
theorem q174 : xMc 174 = prog_11_method_7_code := rfl
theorem m174 : xMl 174 = 1 ∧ xMret 174 = (some FieldType.int) ∧ xMh 174 = [] := by decide +kernel
theorem e174 {X : xX} {d : Nat} {w : xH} {Q : xO → xH → Prop} (x0 : Int32) : Cw X d 174 [.int x0] w Q = Wx X d 174 0 [some (.int x0)] [] w Q := by
  unfold Cw
  rw [m174.1]
  rfl
theorem d174_0 : decode prog_11_method_7_code 0 = .ok (.iload_n 0, 1) := by decide +kernel
theorem d174_1 : decode prog_11_method_7_code 1 = .ok (.invokestatic 15, 3) := by decide +kernel
theorem k174_15_99 : xCa (xMo 174) 15 99 = some (0, 169, 1) := by decide +kernel
theorem d174_4 : decode prog_11_method_7_code 4 = .ok (.bipush 10, 2) := by decide +kernel
theorem d174_6 : decode prog_11_method_7_code 6 = .ok (.ishr, 1) := by decide +kernel
theorem d174_7 : decode prog_11_method_7_code 7 = .ok (.sipush 1023, 3) := by decide +kernel
theorem d174_10 : decode prog_11_method_7_code 10 = .ok (.iand, 1) := by decide +kernel
theorem d174_11 : decode prog_11_method_7_code 11 = .ok (.ireturn, 1) := by decide +kernel
set_option maxRecDepth 100000 in
theorem q175 : xMc 175 = prog_11_method_9_code := rfl
theorem m175 : xMl 175 = 1 ∧ xMret 175 = (some FieldType.boolean) ∧ xMh 175 = [] := by decide +kernel
theorem e175 {X : xX} {d : Nat} {w : xH} {Q : xO → xH → Prop} (x0 : Int32) : Cw X d 175 [.int x0] w Q = Wx X d 175 0 [some (.int x0)] [] w Q := by
  unfold Cw
  rw [m175.1]
  rfl
theorem d175_0 : decode prog_11_method_9_code 0 = .ok (.iload_n 0, 1) := by decide +kernel
theorem d175_1 : decode prog_11_method_9_code 1 = .ok (.invokestatic 19, 3) := by decide +kernel
theorem k175_19_99 : xCa (xMo 175) 19 99 = some (0, 171, 1) := by decide +kernel
theorem d175_4 : decode prog_11_method_9_code 4 = .ok (.bipush 6, 2) := by decide +kernel
theorem d175_6 : decode prog_11_method_9_code 6 = .ok (.if_icmp .eq 13, 3) := by decide +kernel
theorem d175_9 : decode prog_11_method_9_code 9 = .ok (.iload_n 0, 1) := by decide +kernel
theorem d175_10 : decode prog_11_method_9_code 10 = .ok (.iconst 5, 1) := by decide +kernel
theorem d175_11 : decode prog_11_method_9_code 11 = .ok (.bipush 40, 2) := by decide +kernel
theorem d175_13 : decode prog_11_method_9_code 13 = .ok (.invokestatic 11, 3) := by decide +kernel
theorem k175_11_99 : xCa (xMo 175) 11 99 = some (0, 167, 2) := by decide +kernel
theorem d175_16 : decode prog_11_method_9_code 16 = .ok (.if_icmp .ne 7, 3) := by decide +kernel
theorem d175_19 : decode prog_11_method_9_code 19 = .ok (.iconst 1, 1) := by decide +kernel
theorem d175_20 : decode prog_11_method_9_code 20 = .ok (.goto 4, 3) := by decide +kernel
theorem d175_23 : decode prog_11_method_9_code 23 = .ok (.iconst 0, 1) := by decide +kernel
theorem d175_24 : decode prog_11_method_9_code 24 = .ok (.ireturn, 1) := by decide +kernel
set_option maxRecDepth 100000 in
theorem q176 : xMc 176 = prog_11_method_11_code := rfl
theorem m176 : xMl 176 = 2 ∧ xMret 176 = none ∧ xMh 176 = [] := by decide +kernel
theorem e176 {X : xX} {d : Nat} {w : xH} {Q : xO → xH → Prop} (x0 : Int32) (x1 : Nat) : Cw X d 176 [.int x0, .ref x1] w Q = Wx X d 176 0 [some (.int x0), some (.ref x1)] [] w Q := by
  unfold Cw
  rw [m176.1]
  rfl
theorem d176_0 : decode prog_11_method_11_code 0 = .ok (.iload_n 0, 1) := by decide +kernel
theorem d176_1 : decode prog_11_method_11_code 1 = .ok (.invokestatic 19, 3) := by decide +kernel
theorem k176_19_99 : xCa (xMo 176) 19 99 = some (0, 171, 1) := by decide +kernel
theorem d176_4 : decode prog_11_method_11_code 4 = .ok (.tableswitch 127 1 6 #[40, 52, 63, 89, 99, 112], 40) := by decide +kernel
theorem d176_44 : decode prog_11_method_11_code 44 = .ok (.aload_n 1, 1) := by decide +kernel
theorem d176_45 : decode prog_11_method_11_code 45 = .ok (.iload_n 0, 1) := by decide +kernel
theorem d176_46 : decode prog_11_method_11_code 46 = .ok (.invokestatic 15, 3) := by decide +kernel
theorem k176_15_99 : xCa (xMo 176) 15 99 = some (0, 169, 1) := by decide +kernel
theorem d176_49 : decode prog_11_method_11_code 49 = .ok (.invokevirtual 34, 3) := by decide +kernel
theorem k176_34_1 : xCa (xMo 176) 34 1 = some (1, 383, 1) := by decide +kernel
theorem n176_34 : xcn (xMo 176) 34 = some 1 := by decide +kernel
theorem d176_52 : decode prog_11_method_11_code 52 = .ok (.pop, 1) := by decide +kernel
theorem d176_53 : decode prog_11_method_11_code 53 = .ok (.goto 78, 3) := by decide +kernel
theorem d176_56 : decode prog_11_method_11_code 56 = .ok (.iload_n 0, 1) := by decide +kernel
theorem d176_57 : decode prog_11_method_11_code 57 = .ok (.invokestatic 15, 3) := by decide +kernel
theorem d176_60 : decode prog_11_method_11_code 60 = .ok (.aload_n 1, 1) := by decide +kernel
theorem d176_61 : decode prog_11_method_11_code 61 = .ok (.invokestatic 40, 3) := by decide +kernel
theorem k176_40_99 : xCa (xMo 176) 40 99 = some (0, 177, 2) := by decide +kernel
theorem d176_64 : decode prog_11_method_11_code 64 = .ok (.goto 67, 3) := by decide +kernel
theorem d176_67 : decode prog_11_method_11_code 67 = .ok (.iload_n 0, 1) := by decide +kernel
theorem d176_68 : decode prog_11_method_11_code 68 = .ok (.invokestatic 44, 3) := by decide +kernel
theorem k176_44_99 : xCa (xMo 176) 44 99 = some (0, 173, 1) := by decide +kernel
theorem d176_71 : decode prog_11_method_11_code 71 = .ok (.aload_n 1, 1) := by decide +kernel
theorem d176_72 : decode prog_11_method_11_code 72 = .ok (.invokestatic 40, 3) := by decide +kernel
theorem d176_75 : decode prog_11_method_11_code 75 = .ok (.aload_n 1, 1) := by decide +kernel
theorem d176_76 : decode prog_11_method_11_code 76 = .ok (.bipush 58, 2) := by decide +kernel
theorem d176_78 : decode prog_11_method_11_code 78 = .ok (.invokevirtual 47, 3) := by decide +kernel
theorem k176_47_1 : xCa (xMo 176) 47 1 = some (1, 382, 1) := by decide +kernel
theorem n176_47 : xcn (xMo 176) 47 = some 1 := by decide +kernel
theorem d176_81 : decode prog_11_method_11_code 81 = .ok (.pop, 1) := by decide +kernel
theorem d176_82 : decode prog_11_method_11_code 82 = .ok (.iload_n 0, 1) := by decide +kernel
theorem d176_83 : decode prog_11_method_11_code 83 = .ok (.invokestatic 50, 3) := by decide +kernel
theorem k176_50_99 : xCa (xMo 176) 50 99 = some (0, 174, 1) := by decide +kernel
theorem d176_86 : decode prog_11_method_11_code 86 = .ok (.aload_n 1, 1) := by decide +kernel
theorem d176_87 : decode prog_11_method_11_code 87 = .ok (.invokestatic 40, 3) := by decide +kernel
theorem d176_90 : decode prog_11_method_11_code 90 = .ok (.goto 41, 3) := by decide +kernel
theorem d176_93 : decode prog_11_method_11_code 93 = .ok (.aload_n 1, 1) := by decide +kernel
theorem d176_94 : decode prog_11_method_11_code 94 = .ok (.ldc 53, 2) := by decide +kernel
theorem d176_96 : decode prog_11_method_11_code 96 = .ok (.invokevirtual 55, 3) := by decide +kernel
theorem k176_55_1 : xCa (xMo 176) 55 1 = some (1, 381, 1) := by decide +kernel
theorem n176_55 : xcn (xMo 176) 55 = some 1 := by decide +kernel
theorem d176_99 : decode prog_11_method_11_code 99 = .ok (.pop, 1) := by decide +kernel
theorem d176_100 : decode prog_11_method_11_code 100 = .ok (.goto 31, 3) := by decide +kernel
theorem d176_103 : decode prog_11_method_11_code 103 = .ok (.aload_n 1, 1) := by decide +kernel
theorem d176_104 : decode prog_11_method_11_code 104 = .ok (.iload_n 0, 1) := by decide +kernel
theorem d176_105 : decode prog_11_method_11_code 105 = .ok (.invokestatic 15, 3) := by decide +kernel
theorem d176_108 : decode prog_11_method_11_code 108 = .ok (.i2c, 1) := by decide +kernel
theorem d176_109 : decode prog_11_method_11_code 109 = .ok (.invokevirtual 47, 3) := by decide +kernel
theorem d176_112 : decode prog_11_method_11_code 112 = .ok (.pop, 1) := by decide +kernel
theorem d176_113 : decode prog_11_method_11_code 113 = .ok (.goto 18, 3) := by decide +kernel
theorem d176_116 : decode prog_11_method_11_code 116 = .ok (.aload_n 1, 1) := by decide +kernel
theorem d176_117 : decode prog_11_method_11_code 117 = .ok (.iload_n 0, 1) := by decide +kernel
theorem d176_118 : decode prog_11_method_11_code 118 = .ok (.invokestatic 15, 3) := by decide +kernel
theorem d176_121 : decode prog_11_method_11_code 121 = .ok (.invokestatic 58, 3) := by decide +kernel
theorem k176_58_99 : xCa (xMo 176) 58 99 = some (0, 168, 1) := by decide +kernel
theorem d176_124 : decode prog_11_method_11_code 124 = .ok (.invokevirtual 55, 3) := by decide +kernel
theorem d176_127 : decode prog_11_method_11_code 127 = .ok (.pop, 1) := by decide +kernel
theorem d176_128 : decode prog_11_method_11_code 128 = .ok (.goto 3, 3) := by decide +kernel
theorem d176_131 : decode prog_11_method_11_code 131 = .ok (.return_, 1) := by decide +kernel
set_option maxRecDepth 100000 in
theorem q177 : xMc 177 = prog_11_method_12_code := rfl
theorem m177 : xMl 177 = 3 ∧ xMret 177 = none ∧ xMh 177 = [] := by decide +kernel
theorem e177 {X : xX} {d : Nat} {w : xH} {Q : xO → xH → Prop} (x0 : Int32) (x1 : Nat) : Cw X d 177 [.int x0, .ref x1] w Q = Wx X d 177 0 [some (.int x0), some (.ref x1), none] [] w Q := by
  unfold Cw
  rw [m177.1]
  rfl
theorem d177_0 : decode prog_11_method_12_code 0 = .ok (.iload_n 0, 1) := by decide +kernel
theorem d177_1 : decode prog_11_method_12_code 1 = .ok (.invokestatic 62, 3) := by decide +kernel
theorem k177_62_99 : xCa (xMo 177) 62 99 = some (0, 172, 1) := by decide +kernel
theorem d177_4 : decode prog_11_method_12_code 4 = .ok (.istore_n 2, 1) := by decide +kernel
theorem d177_5 : decode prog_11_method_12_code 5 = .ok (.iload_n 0, 1) := by decide +kernel
theorem d177_6 : decode prog_11_method_12_code 6 = .ok (.sipush 256, 3) := by decide +kernel
theorem d177_9 : decode prog_11_method_12_code 9 = .ok (.iand, 1) := by decide +kernel
theorem d177_10 : decode prog_11_method_12_code 10 = .ok (.ifCond .eq 10, 3) := by decide +kernel
theorem d177_13 : decode prog_11_method_12_code 13 = .ok (.aload_n 1, 1) := by decide +kernel
theorem d177_14 : decode prog_11_method_12_code 14 = .ok (.bipush 36, 2) := by decide +kernel
theorem d177_16 : decode prog_11_method_12_code 16 = .ok (.invokevirtual 47, 3) := by decide +kernel
theorem k177_47_1 : xCa (xMo 177) 47 1 = some (1, 382, 1) := by decide +kernel
theorem n177_47 : xcn (xMo 177) 47 = some 1 := by decide +kernel
theorem d177_19 : decode prog_11_method_12_code 19 = .ok (.pop, 1) := by decide +kernel
theorem d177_20 : decode prog_11_method_12_code 20 = .ok (.aload_n 1, 1) := by decide +kernel
theorem d177_21 : decode prog_11_method_12_code 21 = .ok (.bipush 65, 2) := by decide +kernel
theorem d177_23 : decode prog_11_method_12_code 23 = .ok (.iload_n 2, 1) := by decide +kernel
theorem d177_24 : decode prog_11_method_12_code 24 = .ok (.bipush 10, 2) := by decide +kernel
theorem d177_26 : decode prog_11_method_12_code 26 = .ok (.irem, 1) := by decide +kernel
theorem d177_27 : decode prog_11_method_12_code 27 = .ok (.iadd, 1) := by decide +kernel
theorem d177_28 : decode prog_11_method_12_code 28 = .ok (.i2c, 1) := by decide +kernel
theorem d177_29 : decode prog_11_method_12_code 29 = .ok (.invokevirtual 47, 3) := by decide +kernel
theorem d177_32 : decode prog_11_method_12_code 32 = .ok (.pop, 1) := by decide +kernel
theorem d177_33 : decode prog_11_method_12_code 33 = .ok (.iload_n 0, 1) := by decide +kernel
theorem d177_34 : decode prog_11_method_12_code 34 = .ok (.sipush 512, 3) := by decide +kernel
theorem d177_37 : decode prog_11_method_12_code 37 = .ok (.iand, 1) := by decide +kernel
theorem d177_38 : decode prog_11_method_12_code 38 = .ok (.ifCond .eq 10, 3) := by decide +kernel
theorem d177_41 : decode prog_11_method_12_code 41 = .ok (.aload_n 1, 1) := by decide +kernel
theorem d177_42 : decode prog_11_method_12_code 42 = .ok (.bipush 36, 2) := by decide +kernel
theorem d177_44 : decode prog_11_method_12_code 44 = .ok (.invokevirtual 47, 3) := by decide +kernel
theorem d177_47 : decode prog_11_method_12_code 47 = .ok (.pop, 1) := by decide +kernel
theorem d177_48 : decode prog_11_method_12_code 48 = .ok (.aload_n 1, 1) := by decide +kernel
theorem d177_49 : decode prog_11_method_12_code 49 = .ok (.iload_n 2, 1) := by decide +kernel
theorem d177_50 : decode prog_11_method_12_code 50 = .ok (.bipush 10, 2) := by decide +kernel
theorem d177_52 : decode prog_11_method_12_code 52 = .ok (.idiv, 1) := by decide +kernel
theorem d177_53 : decode prog_11_method_12_code 53 = .ok (.iconst 1, 1) := by decide +kernel
theorem d177_54 : decode prog_11_method_12_code 54 = .ok (.iadd, 1) := by decide +kernel
theorem d177_55 : decode prog_11_method_12_code 55 = .ok (.invokevirtual 34, 3) := by decide +kernel
theorem k177_34_1 : xCa (xMo 177) 34 1 = some (1, 383, 1) := by decide +kernel
theorem n177_34 : xcn (xMo 177) 34 = some 1 := by decide +kernel
theorem d177_58 : decode prog_11_method_12_code 58 = .ok (.pop, 1) := by decide +kernel
theorem d177_59 : decode prog_11_method_12_code 59 = .ok (.return_, 1) := by decide +kernel
end
