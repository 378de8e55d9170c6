/-! facts of methods, written by wip/whole/mkfacts.py -/
section
set_option maxRecDepth 100000 in
theorem q62 : xMc 62 = prog_2_method_1_code := rfl
theorem m62 : xMl 62 = 1 ∧ xMret 62 = none ∧ xMh 62 = [] := by decide +kernel
theorem e62 {X : xX} {d : Nat} {w : xH} {Q : xO → xH → Prop} (a : Nat) : Cw X d 62 [.ref a] w Q = Wx X d 62 0 [some (.ref a)] [] w Q := by
  unfold Cw
  rw [m62.1]
  rfl
theorem d62_0 : decode prog_2_method_1_code 0 = .ok (.aload_n 0, 1) := by decide +kernel
theorem d62_1 : decode prog_2_method_1_code 1 = .ok (.invokespecial 5, 3) := by decide +kernel
theorem d62_4 : decode prog_2_method_1_code 4 = .ok (.aload_n 0, 1) := by decide +kernel
theorem d62_5 : decode prog_2_method_1_code 5 = .ok (.new 11, 3) := by decide +kernel
theorem d62_8 : decode prog_2_method_1_code 8 = .ok (.dup, 1) := by decide +kernel
theorem d62_9 : decode prog_2_method_1_code 9 = .ok (.invokespecial 13, 3) := by decide +kernel
theorem k62_13_98 : xCa (xMo 62) 13 98 = some (12, 148, 0) := by decide +kernel
theorem d62_12 : decode prog_2_method_1_code 12 = .ok (.putfield 14, 3) := by decide +kernel
theorem f62_14 : xFd (xMo 62) 14 = some (2, 0) := by decide +kernel
theorem d62_15 : decode prog_2_method_1_code 15 = .ok (.aload_n 0, 1) := by decide +kernel
theorem d62_16 : decode prog_2_method_1_code 16 = .ok (.new 18, 3) := by decide +kernel
theorem d62_19 : decode prog_2_method_1_code 19 = .ok (.dup, 1) := by decide +kernel
theorem d62_20 : decode prog_2_method_1_code 20 = .ok (.invokespecial 20, 3) := by decide +kernel
theorem k62_20_98 : xCa (xMo 62) 20 98 = some (2, 99, 0) := by decide +kernel
theorem d62_23 : decode prog_2_method_1_code 23 = .ok (.putfield 21, 3) := by decide +kernel
theorem f62_21 : xFd (xMo 62) 21 = some (2, 1) := by decide +kernel
theorem d62_26 : decode prog_2_method_1_code 26 = .ok (.return_, 1) := by decide +kernel
set_option maxRecDepth 100000 in
theorem q63 : xMc 63 = prog_2_method_4_code := rfl
theorem m63 : xMl 63 = 3 ∧ xMret 63 = (some FieldType.int) ∧ xMh 63 = [] := by decide +kernel
theorem e63 {X : xX} {d : Nat} {w : xH} {Q : xO → xH → Prop} (a : Nat) (x0 : Int32) : Cw X d 63 [.ref a, .int x0] w Q = Wx X d 63 0 [some (.ref a), some (.int x0), none] [] w Q := by
  unfold Cw
  rw [m63.1]
  rfl
theorem d63_0 : decode prog_2_method_4_code 0 = .ok (.aload_n 0, 1) := by decide +kernel
theorem d63_1 : decode prog_2_method_4_code 1 = .ok (.getfield 21, 3) := by decide +kernel
theorem f63_21 : xFd (xMo 63) 21 = some (2, 1) := by decide +kernel
theorem d63_4 : decode prog_2_method_4_code 4 = .ok (.aload_n 0, 1) := by decide +kernel
theorem d63_5 : decode prog_2_method_4_code 5 = .ok (.getfield 14, 3) := by decide +kernel
theorem f63_14 : xFd (xMo 63) 14 = some (2, 0) := by decide +kernel
theorem d63_8 : decode prog_2_method_4_code 8 = .ok (.invokevirtual 29, 3) := by decide +kernel
theorem k63_29_6 : xCa (xMo 63) 29 6 = some (1, 100, 1) := by decide +kernel
theorem n63_29 : xcn (xMo 63) 29 = some 1 := by decide +kernel
theorem d63_11 : decode prog_2_method_4_code 11 = .ok (.aload_n 0, 1) := by decide +kernel
theorem d63_12 : decode prog_2_method_4_code 12 = .ok (.getfield 21, 3) := by decide +kernel
theorem d63_15 : decode prog_2_method_4_code 15 = .ok (.iload_n 1, 1) := by decide +kernel
theorem d63_16 : decode prog_2_method_4_code 16 = .ok (.invokevirtual 43, 3) := by decide +kernel
theorem k63_43_6 : xCa (xMo 63) 43 6 = some (1, 108, 1) := by decide +kernel
theorem n63_43 : xcn (xMo 63) 43 = some 1 := by decide +kernel
theorem d63_19 : decode prog_2_method_4_code 19 = .ok (.aload_n 0, 1) := by decide +kernel
theorem d63_20 : decode prog_2_method_4_code 20 = .ok (.getfield 14, 3) := by decide +kernel
theorem d63_23 : decode prog_2_method_4_code 23 = .ok (.getfield 46, 3) := by decide +kernel
theorem f63_46 : xFd (xMo 63) 46 = some (9, 0) := by decide +kernel
theorem d63_26 : decode prog_2_method_4_code 26 = .ok (.iload_n 1, 1) := by decide +kernel
theorem d63_27 : decode prog_2_method_4_code 27 = .ok (.iaload, 1) := by decide +kernel
theorem d63_28 : decode prog_2_method_4_code 28 = .ok (.iconst 2, 1) := by decide +kernel
theorem d63_29 : decode prog_2_method_4_code 29 = .ok (.if_icmp .ne 13, 3) := by decide +kernel
theorem d63_32 : decode prog_2_method_4_code 32 = .ok (.aload_n 0, 1) := by decide +kernel
theorem d63_33 : decode prog_2_method_4_code 33 = .ok (.getfield 21, 3) := by decide +kernel
theorem d63_36 : decode prog_2_method_4_code 36 = .ok (.getfield 50, 3) := by decide +kernel
theorem f63_50 : xFd (xMo 63) 50 = some (6, 7) := by decide +kernel
theorem d63_39 : decode prog_2_method_4_code 39 = .ok (.iload_n 1, 1) := by decide +kernel
theorem d63_40 : decode prog_2_method_4_code 40 = .ok (.iconst 1, 1) := by decide +kernel
theorem d63_41 : decode prog_2_method_4_code 41 = .ok (.bastore, 1) := by decide +kernel
theorem d63_42 : decode prog_2_method_4_code 42 = .ok (.aload_n 0, 1) := by decide +kernel
theorem d63_43 : decode prog_2_method_4_code 43 = .ok (.invokevirtual 35, 3) := by decide +kernel
theorem k63_35_2 : xCa (xMo 63) 35 2 = some (1, 64, 0) := by decide +kernel
theorem n63_35 : xcn (xMo 63) 35 = some 0 := by decide +kernel
theorem d63_46 : decode prog_2_method_4_code 46 = .ok (.istore_n 2, 1) := by decide +kernel
theorem d63_47 : decode prog_2_method_4_code 47 = .ok (.aload_n 0, 1) := by decide +kernel
theorem d63_48 : decode prog_2_method_4_code 48 = .ok (.getfield 14, 3) := by decide +kernel
theorem d63_51 : decode prog_2_method_4_code 51 = .ok (.iload_n 2, 1) := by decide +kernel
theorem d63_52 : decode prog_2_method_4_code 52 = .ok (.invokevirtual 39, 3) := by decide +kernel
theorem k63_39_9 : xCa (xMo 63) 39 9 = some (1, 158, 1) := by decide +kernel
theorem n63_39 : xcn (xMo 63) 39 = some 1 := by decide +kernel
theorem d63_55 : decode prog_2_method_4_code 55 = .ok (.iload_n 2, 1) := by decide +kernel
theorem d63_56 : decode prog_2_method_4_code 56 = .ok (.ireturn, 1) := by decide +kernel
set_option maxRecDepth 100000 in
theorem q64 : xMc 64 = prog_2_method_6_code := rfl
theorem m64 : xMl 64 = 5 ∧ xMret 64 = (some FieldType.int) ∧ xMh 64 = [] := by decide +kernel
theorem e64 {X : xX} {d : Nat} {w : xH} {Q : xO → xH → Prop} (a : Nat) : Cw X d 64 [.ref a] w Q = Wx X d 64 0 [some (.ref a), none, none, none, none] [] w Q := by
  unfold Cw
  rw [m64.1]
  rfl
theorem d64_0 : decode prog_2_method_6_code 0 = .ok (.iconst 0, 1) := by decide +kernel
theorem d64_1 : decode prog_2_method_6_code 1 = .ok (.istore_n 1, 1) := by decide +kernel
theorem d64_2 : decode prog_2_method_6_code 2 = .ok (.iload_n 1, 1) := by decide +kernel
theorem d64_3 : decode prog_2_method_6_code 3 = .ok (.aload_n 0, 1) := by decide +kernel
theorem d64_4 : decode prog_2_method_6_code 4 = .ok (.getfield 21, 3) := by decide +kernel
theorem f64_21 : xFd (xMo 64) 21 = some (2, 1) := by decide +kernel
theorem d64_7 : decode prog_2_method_6_code 7 = .ok (.getfield 68, 3) := by decide +kernel
theorem f64_68 : xFd (xMo 64) 68 = some (6, 4) := by decide +kernel
theorem d64_10 : decode prog_2_method_6_code 10 = .ok (.if_icmp .ge 82, 3) := by decide +kernel
theorem d64_13 : decode prog_2_method_6_code 13 = .ok (.aload_n 0, 1) := by decide +kernel
theorem d64_14 : decode prog_2_method_6_code 14 = .ok (.getfield 21, 3) := by decide +kernel
theorem d64_17 : decode prog_2_method_6_code 17 = .ok (.getfield 71, 3) := by decide +kernel
theorem f64_71 : xFd (xMo 64) 71 = some (6, 3) := by decide +kernel
theorem d64_20 : decode prog_2_method_6_code 20 = .ok (.iload_n 1, 1) := by decide +kernel
theorem d64_21 : decode prog_2_method_6_code 21 = .ok (.iaload, 1) := by decide +kernel
theorem d64_22 : decode prog_2_method_6_code 22 = .ok (.istore_n 2, 1) := by decide +kernel
theorem d64_23 : decode prog_2_method_6_code 23 = .ok (.aload_n 0, 1) := by decide +kernel
theorem d64_24 : decode prog_2_method_6_code 24 = .ok (.getfield 21, 3) := by decide +kernel
theorem d64_27 : decode prog_2_method_6_code 27 = .ok (.getfield 50, 3) := by decide +kernel
theorem f64_50 : xFd (xMo 64) 50 = some (6, 7) := by decide +kernel
theorem d64_30 : decode prog_2_method_6_code 30 = .ok (.iload_n 2, 1) := by decide +kernel
theorem d64_31 : decode prog_2_method_6_code 31 = .ok (.baload, 1) := by decide +kernel
theorem d64_32 : decode prog_2_method_6_code 32 = .ok (.ifCond .eq 54, 3) := by decide +kernel
theorem d64_35 : decode prog_2_method_6_code 35 = .ok (.aload_n 0, 1) := by decide +kernel
theorem d64_36 : decode prog_2_method_6_code 36 = .ok (.iload_n 2, 1) := by decide +kernel
theorem d64_37 : decode prog_2_method_6_code 37 = .ok (.bipush 60, 2) := by decide +kernel
theorem d64_39 : decode prog_2_method_6_code 39 = .ok (.imul, 1) := by decide +kernel
theorem d64_40 : decode prog_2_method_6_code 40 = .ok (.putfield 74, 3) := by decide +kernel
theorem f64_74 : xFd (xMo 64) 74 = some (2, 2) := by decide +kernel
theorem d64_43 : decode prog_2_method_6_code 43 = .ok (.aload_n 0, 1) := by decide +kernel
theorem d64_44 : decode prog_2_method_6_code 44 = .ok (.aload_n 0, 1) := by decide +kernel
theorem d64_45 : decode prog_2_method_6_code 45 = .ok (.getfield 74, 3) := by decide +kernel
theorem d64_48 : decode prog_2_method_6_code 48 = .ok (.aload_n 0, 1) := by decide +kernel
theorem d64_49 : decode prog_2_method_6_code 49 = .ok (.getfield 14, 3) := by decide +kernel
theorem f64_14 : xFd (xMo 64) 14 = some (2, 0) := by decide +kernel
theorem d64_52 : decode prog_2_method_6_code 52 = .ok (.getfield 77, 3) := by decide +kernel
theorem f64_77 : xFd (xMo 64) 77 = some (9, 3) := by decide +kernel
theorem d64_55 : decode prog_2_method_6_code 55 = .ok (.iload_n 2, 1) := by decide +kernel
theorem d64_56 : decode prog_2_method_6_code 56 = .ok (.iaload, 1) := by decide +kernel
theorem d64_57 : decode prog_2_method_6_code 57 = .ok (.iadd, 1) := by decide +kernel
theorem d64_58 : decode prog_2_method_6_code 58 = .ok (.putfield 80, 3) := by decide +kernel
theorem f64_80 : xFd (xMo 64) 80 = some (2, 3) := by decide +kernel
theorem d64_61 : decode prog_2_method_6_code 61 = .ok (.aload_n 0, 1) := by decide +kernel
theorem d64_62 : decode prog_2_method_6_code 62 = .ok (.iconst 0, 1) := by decide +kernel
theorem d64_63 : decode prog_2_method_6_code 63 = .ok (.putfield 83, 3) := by decide +kernel
theorem f64_83 : xFd (xMo 64) 83 = some (2, 4) := by decide +kernel
theorem d64_66 : decode prog_2_method_6_code 66 = .ok (.aload_n 0, 1) := by decide +kernel
theorem d64_67 : decode prog_2_method_6_code 67 = .ok (.iconst 0, 1) := by decide +kernel
theorem d64_68 : decode prog_2_method_6_code 68 = .ok (.invokevirtual 86, 3) := by decide +kernel
theorem k64_86_2 : xCa (xMo 64) 86 2 = some (1, 65, 1) := by decide +kernel
theorem n64_86 : xcn (xMo 64) 86 = some 1 := by decide +kernel
theorem d64_71 : decode prog_2_method_6_code 71 = .ok (.lstore_n 3, 1) := by decide +kernel
theorem d64_72 : decode prog_2_method_6_code 72 = .ok (.aload_n 0, 1) := by decide +kernel
theorem d64_73 : decode prog_2_method_6_code 73 = .ok (.getfield 14, 3) := by decide +kernel
theorem d64_76 : decode prog_2_method_6_code 76 = .ok (.iload_n 2, 1) := by decide +kernel
theorem d64_77 : decode prog_2_method_6_code 77 = .ok (.lload_n 3, 1) := by decide +kernel
theorem d64_78 : decode prog_2_method_6_code 78 = .ok (.l2i, 1) := by decide +kernel
theorem d64_79 : decode prog_2_method_6_code 79 = .ok (.aload_n 0, 1) := by decide +kernel
theorem d64_80 : decode prog_2_method_6_code 80 = .ok (.getfield 83, 3) := by decide +kernel
theorem d64_83 : decode prog_2_method_6_code 83 = .ok (.invokevirtual 61, 3) := by decide +kernel
theorem k64_61_9 : xCa (xMo 64) 61 9 = some (1, 157, 3) := by decide +kernel
theorem n64_61 : xcn (xMo 64) 61 = some 3 := by decide +kernel
theorem d64_86 : decode prog_2_method_6_code 86 = .ok (.iinc 1 1, 3) := by decide +kernel
theorem d64_89 : decode prog_2_method_6_code 89 = .ok (.goto (-87), 3) := by decide +kernel
theorem d64_92 : decode prog_2_method_6_code 92 = .ok (.iconst 0, 1) := by decide +kernel
theorem d64_93 : decode prog_2_method_6_code 93 = .ok (.istore_n 1, 1) := by decide +kernel
theorem d64_94 : decode prog_2_method_6_code 94 = .ok (.iload_n 1, 1) := by decide +kernel
theorem d64_95 : decode prog_2_method_6_code 95 = .ok (.aload_n 0, 1) := by decide +kernel
theorem d64_96 : decode prog_2_method_6_code 96 = .ok (.getfield 21, 3) := by decide +kernel
theorem d64_99 : decode prog_2_method_6_code 99 = .ok (.getfield 54, 3) := by decide +kernel
theorem f64_54 : xFd (xMo 64) 54 = some (6, 2) := by decide +kernel
theorem d64_102 : decode prog_2_method_6_code 102 = .ok (.if_icmp .ge 53, 3) := by decide +kernel
theorem d64_105 : decode prog_2_method_6_code 105 = .ok (.aload_n 0, 1) := by decide +kernel
theorem d64_106 : decode prog_2_method_6_code 106 = .ok (.getfield 21, 3) := by decide +kernel
theorem d64_109 : decode prog_2_method_6_code 109 = .ok (.getfield 58, 3) := by decide +kernel
theorem f64_58 : xFd (xMo 64) 58 = some (6, 1) := by decide +kernel
theorem d64_112 : decode prog_2_method_6_code 112 = .ok (.iload_n 1, 1) := by decide +kernel
theorem d64_113 : decode prog_2_method_6_code 113 = .ok (.iaload, 1) := by decide +kernel
theorem d64_114 : decode prog_2_method_6_code 114 = .ok (.istore_n 2, 1) := by decide +kernel
theorem d64_115 : decode prog_2_method_6_code 115 = .ok (.aload_n 0, 1) := by decide +kernel
theorem d64_116 : decode prog_2_method_6_code 116 = .ok (.getfield 21, 3) := by decide +kernel
theorem d64_119 : decode prog_2_method_6_code 119 = .ok (.getfield 50, 3) := by decide +kernel
theorem d64_122 : decode prog_2_method_6_code 122 = .ok (.iload_n 2, 1) := by decide +kernel
theorem d64_123 : decode prog_2_method_6_code 123 = .ok (.baload, 1) := by decide +kernel
theorem d64_124 : decode prog_2_method_6_code 124 = .ok (.ifCond .eq 25, 3) := by decide +kernel
theorem d64_127 : decode prog_2_method_6_code 127 = .ok (.aload_n 0, 1) := by decide +kernel
theorem d64_128 : decode prog_2_method_6_code 128 = .ok (.getfield 21, 3) := by decide +kernel
theorem d64_131 : decode prog_2_method_6_code 131 = .ok (.getfield 90, 3) := by decide +kernel
theorem f64_90 : xFd (xMo 64) 90 = some (6, 5) := by decide +kernel
theorem d64_134 : decode prog_2_method_6_code 134 = .ok (.iload_n 2, 1) := by decide +kernel
theorem d64_135 : decode prog_2_method_6_code 135 = .ok (.iaload, 1) := by decide +kernel
theorem d64_136 : decode prog_2_method_6_code 136 = .ok (.ifCond .ge 13, 3) := by decide +kernel
theorem d64_139 : decode prog_2_method_6_code 139 = .ok (.aload_n 0, 1) := by decide +kernel
theorem d64_140 : decode prog_2_method_6_code 140 = .ok (.getfield 14, 3) := by decide +kernel
theorem d64_143 : decode prog_2_method_6_code 143 = .ok (.iload_n 2, 1) := by decide +kernel
theorem d64_144 : decode prog_2_method_6_code 144 = .ok (.iconst 0, 1) := by decide +kernel
theorem d64_145 : decode prog_2_method_6_code 145 = .ok (.iconst 5, 1) := by decide +kernel
theorem d64_146 : decode prog_2_method_6_code 146 = .ok (.invokevirtual 61, 3) := by decide +kernel
theorem d64_149 : decode prog_2_method_6_code 149 = .ok (.iinc 1 1, 3) := by decide +kernel
theorem d64_152 : decode prog_2_method_6_code 152 = .ok (.goto (-58), 3) := by decide +kernel
theorem d64_155 : decode prog_2_method_6_code 155 = .ok (.aload_n 0, 1) := by decide +kernel
theorem d64_156 : decode prog_2_method_6_code 156 = .ok (.getfield 21, 3) := by decide +kernel
theorem d64_159 : decode prog_2_method_6_code 159 = .ok (.invokevirtual 93, 3) := by decide +kernel
theorem k64_93_6 : xCa (xMo 64) 93 6 = some (1, 111, 0) := by decide +kernel
theorem n64_93 : xcn (xMo 64) 93 = some 0 := by decide +kernel
theorem d64_162 : decode prog_2_method_6_code 162 = .ok (.ireturn, 1) := by decide +kernel
set_option maxRecDepth 100000 in
theorem q65 : xMc 65 = prog_2_method_7_code := rfl
theorem m65 : xMl 65 = 8 ∧ xMret 65 = (some FieldType.long) ∧ xMh 65 = [] := by decide +kernel
theorem e65 {X : xX} {d : Nat} {w : xH} {Q : xO → xH → Prop} (a : Nat) (x0 : Int32) : Cw X d 65 [.ref a, .int x0] w Q = Wx X d 65 0 [some (.ref a), some (.int x0), none, none, none, none, none, none] [] w Q := by
  unfold Cw
  rw [m65.1]
  rfl
theorem d65_0 : decode prog_2_method_7_code 0 = .ok (.iload_n 1, 1) := by decide +kernel
theorem d65_1 : decode prog_2_method_7_code 1 = .ok (.bipush 30, 2) := by decide +kernel
theorem d65_3 : decode prog_2_method_7_code 3 = .ok (.if_icmp .le 9, 3) := by decide +kernel
theorem d65_6 : decode prog_2_method_7_code 6 = .ok (.aload_n 0, 1) := by decide +kernel
theorem d65_7 : decode prog_2_method_7_code 7 = .ok (.iconst 2, 1) := by decide +kernel
theorem d65_8 : decode prog_2_method_7_code 8 = .ok (.invokevirtual 96, 3) := by decide +kernel
theorem k65_96_2 : xCa (xMo 65) 96 2 = some (1, 66, 1) := by decide +kernel
theorem n65_96 : xcn (xMo 65) 96 = some 1 := by decide +kernel
theorem d65_11 : decode prog_2_method_7_code 11 = .ok (.lreturn, 1) := by decide +kernel
theorem d65_12 : decode prog_2_method_7_code 12 = .ok (.aload_n 0, 1) := by decide +kernel
theorem d65_13 : decode prog_2_method_7_code 13 = .ok (.iload_n 1, 1) := by decide +kernel
theorem d65_14 : decode prog_2_method_7_code 14 = .ok (.invokevirtual 99, 3) := by decide +kernel
theorem k65_99_2 : xCa (xMo 65) 99 2 = some (1, 67, 1) := by decide +kernel
theorem n65_99 : xcn (xMo 65) 99 = some 1 := by decide +kernel
theorem d65_17 : decode prog_2_method_7_code 17 = .ok (.lstore_n 2, 1) := by decide +kernel
theorem d65_18 : decode prog_2_method_7_code 18 = .ok (.aload_n 0, 1) := by decide +kernel
theorem d65_19 : decode prog_2_method_7_code 19 = .ok (.invokevirtual 102, 3) := by decide +kernel
theorem k65_102_2 : xCa (xMo 65) 102 2 = some (1, 70, 0) := by decide +kernel
theorem n65_102 : xcn (xMo 65) 102 = some 0 := by decide +kernel
theorem d65_22 : decode prog_2_method_7_code 22 = .ok (.istore 4, 2) := by decide +kernel
theorem d65_24 : decode prog_2_method_7_code 24 = .ok (.aload_n 0, 1) := by decide +kernel
theorem d65_25 : decode prog_2_method_7_code 25 = .ok (.getfield 83, 3) := by decide +kernel
theorem f65_83 : xFd (xMo 65) 83 = some (2, 4) := by decide +kernel
theorem d65_28 : decode prog_2_method_7_code 28 = .ok (.ifCond .ne 24, 3) := by decide +kernel
theorem d65_31 : decode prog_2_method_7_code 31 = .ok (.iload 4, 2) := by decide +kernel
theorem d65_33 : decode prog_2_method_7_code 33 = .ok (.bipush 60, 2) := by decide +kernel
theorem d65_35 : decode prog_2_method_7_code 35 = .ok (.if_icmp .eq 19, 3) := by decide +kernel
theorem d65_38 : decode prog_2_method_7_code 38 = .ok (.iload 4, 2) := by decide +kernel
theorem d65_40 : decode prog_2_method_7_code 40 = .ok (.bipush 62, 2) := by decide +kernel
theorem d65_42 : decode prog_2_method_7_code 42 = .ok (.if_icmp .eq 12, 3) := by decide +kernel
theorem d65_45 : decode prog_2_method_7_code 45 = .ok (.iload 4, 2) := by decide +kernel
theorem d65_47 : decode prog_2_method_7_code 47 = .ok (.bipush 61, 2) := by decide +kernel
theorem d65_49 : decode prog_2_method_7_code 49 = .ok (.if_icmp .eq 5, 3) := by decide +kernel
theorem d65_52 : decode prog_2_method_7_code 52 = .ok (.lload_n 2, 1) := by decide +kernel
theorem d65_53 : decode prog_2_method_7_code 53 = .ok (.lreturn, 1) := by decide +kernel
theorem d65_54 : decode prog_2_method_7_code 54 = .ok (.aload_n 0, 1) := by decide +kernel
theorem d65_55 : decode prog_2_method_7_code 55 = .ok (.dup, 1) := by decide +kernel
theorem d65_56 : decode prog_2_method_7_code 56 = .ok (.getfield 74, 3) := by decide +kernel
theorem f65_74 : xFd (xMo 65) 74 = some (2, 2) := by decide +kernel
theorem d65_59 : decode prog_2_method_7_code 59 = .ok (.iconst 1, 1) := by decide +kernel
theorem d65_60 : decode prog_2_method_7_code 60 = .ok (.iadd, 1) := by decide +kernel
theorem d65_61 : decode prog_2_method_7_code 61 = .ok (.putfield 74, 3) := by decide +kernel
theorem d65_64 : decode prog_2_method_7_code 64 = .ok (.aload_n 0, 1) := by decide +kernel
theorem d65_65 : decode prog_2_method_7_code 65 = .ok (.iload_n 1, 1) := by decide +kernel
theorem d65_66 : decode prog_2_method_7_code 66 = .ok (.invokevirtual 99, 3) := by decide +kernel
theorem d65_69 : decode prog_2_method_7_code 69 = .ok (.lstore 5, 2) := by decide +kernel
theorem d65_71 : decode prog_2_method_7_code 71 = .ok (.iload 4, 2) := by decide +kernel
theorem d65_73 : decode prog_2_method_7_code 73 = .ok (.bipush 60, 2) := by decide +kernel
theorem d65_75 : decode prog_2_method_7_code 75 = .ok (.if_icmp .ne 18, 3) := by decide +kernel
theorem d65_78 : decode prog_2_method_7_code 78 = .ok (.lload_n 2, 1) := by decide +kernel
theorem d65_79 : decode prog_2_method_7_code 79 = .ok (.lload 5, 2) := by decide +kernel
theorem d65_81 : decode prog_2_method_7_code 81 = .ok (.lcmp, 1) := by decide +kernel
theorem d65_82 : decode prog_2_method_7_code 82 = .ok (.ifCond .ge 7, 3) := by decide +kernel
theorem d65_85 : decode prog_2_method_7_code 85 = .ok (.iconst 1, 1) := by decide +kernel
theorem d65_86 : decode prog_2_method_7_code 86 = .ok (.goto 41, 3) := by decide +kernel
theorem d65_89 : decode prog_2_method_7_code 89 = .ok (.iconst 0, 1) := by decide +kernel
theorem d65_90 : decode prog_2_method_7_code 90 = .ok (.goto 37, 3) := by decide +kernel
theorem d65_93 : decode prog_2_method_7_code 93 = .ok (.iload 4, 2) := by decide +kernel
theorem d65_95 : decode prog_2_method_7_code 95 = .ok (.bipush 62, 2) := by decide +kernel
theorem d65_97 : decode prog_2_method_7_code 97 = .ok (.if_icmp .ne 18, 3) := by decide +kernel
theorem d65_100 : decode prog_2_method_7_code 100 = .ok (.lload_n 2, 1) := by decide +kernel
theorem d65_101 : decode prog_2_method_7_code 101 = .ok (.lload 5, 2) := by decide +kernel
theorem d65_103 : decode prog_2_method_7_code 103 = .ok (.lcmp, 1) := by decide +kernel
theorem d65_104 : decode prog_2_method_7_code 104 = .ok (.ifCond .le 7, 3) := by decide +kernel
theorem d65_107 : decode prog_2_method_7_code 107 = .ok (.iconst 1, 1) := by decide +kernel
theorem d65_108 : decode prog_2_method_7_code 108 = .ok (.goto 19, 3) := by decide +kernel
theorem d65_111 : decode prog_2_method_7_code 111 = .ok (.iconst 0, 1) := by decide +kernel
theorem d65_112 : decode prog_2_method_7_code 112 = .ok (.goto 15, 3) := by decide +kernel
theorem d65_115 : decode prog_2_method_7_code 115 = .ok (.lload_n 2, 1) := by decide +kernel
theorem d65_116 : decode prog_2_method_7_code 116 = .ok (.lload 5, 2) := by decide +kernel
theorem d65_118 : decode prog_2_method_7_code 118 = .ok (.lcmp, 1) := by decide +kernel
theorem d65_119 : decode prog_2_method_7_code 119 = .ok (.ifCond .ne 7, 3) := by decide +kernel
theorem d65_122 : decode prog_2_method_7_code 122 = .ok (.iconst 1, 1) := by decide +kernel
theorem d65_123 : decode prog_2_method_7_code 123 = .ok (.goto 4, 3) := by decide +kernel
theorem d65_126 : decode prog_2_method_7_code 126 = .ok (.iconst 0, 1) := by decide +kernel
theorem d65_127 : decode prog_2_method_7_code 127 = .ok (.istore 7, 2) := by decide +kernel
theorem d65_129 : decode prog_2_method_7_code 129 = .ok (.iload 7, 2) := by decide +kernel
theorem d65_131 : decode prog_2_method_7_code 131 = .ok (.ifCond .eq 7, 3) := by decide +kernel
theorem d65_134 : decode prog_2_method_7_code 134 = .ok (.lconst 1, 1) := by decide +kernel
theorem d65_135 : decode prog_2_method_7_code 135 = .ok (.goto 4, 3) := by decide +kernel
theorem d65_138 : decode prog_2_method_7_code 138 = .ok (.lconst 0, 1) := by decide +kernel
theorem d65_139 : decode prog_2_method_7_code 139 = .ok (.lreturn, 1) := by decide +kernel
set_option maxRecDepth 100000 in
theorem q66 : xMc 66 = prog_2_method_24_code := rfl
theorem m66 : xMl 66 = 2 ∧ xMret 66 = (some FieldType.long) ∧ xMh 66 = [] := by decide +kernel
theorem e66 {X : xX} {d : Nat} {w : xH} {Q : xO → xH → Prop} (a : Nat) (x0 : Int32) : Cw X d 66 [.ref a, .int x0] w Q = Wx X d 66 0 [some (.ref a), some (.int x0)] [] w Q := by
  unfold Cw
  rw [m66.1]
  rfl
theorem d66_0 : decode prog_2_method_24_code 0 = .ok (.aload_n 0, 1) := by decide +kernel
theorem d66_1 : decode prog_2_method_24_code 1 = .ok (.getfield 83, 3) := by decide +kernel
theorem f66_83 : xFd (xMo 66) 83 = some (2, 4) := by decide +kernel
theorem d66_4 : decode prog_2_method_24_code 4 = .ok (.ifCond .ne 8, 3) := by decide +kernel
theorem d66_7 : decode prog_2_method_24_code 7 = .ok (.aload_n 0, 1) := by decide +kernel
theorem d66_8 : decode prog_2_method_24_code 8 = .ok (.iload_n 1, 1) := by decide +kernel
theorem d66_9 : decode prog_2_method_24_code 9 = .ok (.putfield 83, 3) := by decide +kernel
theorem d66_12 : decode prog_2_method_24_code 12 = .ok (.lconst 0, 1) := by decide +kernel
theorem d66_13 : decode prog_2_method_24_code 13 = .ok (.lreturn, 1) := by decide +kernel
set_option maxRecDepth 100000 in
theorem q67 : xMc 67 = prog_2_method_8_code := rfl
theorem m67 : xMl 67 = 8 ∧ xMret 67 = (some FieldType.long) ∧ xMh 67 = [] := by decide +kernel
theorem e67 {X : xX} {d : Nat} {w : xH} {Q : xO → xH → Prop} (a : Nat) (x0 : Int32) : Cw X d 67 [.ref a, .int x0] w Q = Wx X d 67 0 [some (.ref a), some (.int x0), none, none, none, none, none, none] [] w Q := by
  unfold Cw
  rw [m67.1]
  rfl
theorem d67_0 : decode prog_2_method_8_code 0 = .ok (.aload_n 0, 1) := by decide +kernel
theorem d67_1 : decode prog_2_method_8_code 1 = .ok (.iload_n 1, 1) := by decide +kernel
theorem d67_2 : decode prog_2_method_8_code 2 = .ok (.invokevirtual 106, 3) := by decide +kernel
theorem k67_106_2 : xCa (xMo 67) 106 2 = some (1, 68, 1) := by decide +kernel
theorem n67_106 : xcn (xMo 67) 106 = some 1 := by decide +kernel
theorem d67_5 : decode prog_2_method_8_code 5 = .ok (.lstore_n 2, 1) := by decide +kernel
theorem d67_6 : decode prog_2_method_8_code 6 = .ok (.iconst 0, 1) := by decide +kernel
theorem d67_7 : decode prog_2_method_8_code 7 = .ok (.istore 4, 2) := by decide +kernel
theorem d67_9 : decode prog_2_method_8_code 9 = .ok (.iload 4, 2) := by decide +kernel
theorem d67_11 : decode prog_2_method_8_code 11 = .ok (.bipush 60, 2) := by decide +kernel
theorem d67_13 : decode prog_2_method_8_code 13 = .ok (.if_icmp .ge 79, 3) := by decide +kernel
theorem d67_16 : decode prog_2_method_8_code 16 = .ok (.aload_n 0, 1) := by decide +kernel
theorem d67_17 : decode prog_2_method_8_code 17 = .ok (.getfield 83, 3) := by decide +kernel
theorem f67_83 : xFd (xMo 67) 83 = some (2, 4) := by decide +kernel
theorem d67_20 : decode prog_2_method_8_code 20 = .ok (.ifCond .ne 72, 3) := by decide +kernel
theorem d67_23 : decode prog_2_method_8_code 23 = .ok (.aload_n 0, 1) := by decide +kernel
theorem d67_24 : decode prog_2_method_8_code 24 = .ok (.invokevirtual 102, 3) := by decide +kernel
theorem k67_102_2 : xCa (xMo 67) 102 2 = some (1, 70, 0) := by decide +kernel
theorem n67_102 : xcn (xMo 67) 102 = some 0 := by decide +kernel
theorem d67_27 : decode prog_2_method_8_code 27 = .ok (.istore 5, 2) := by decide +kernel
theorem d67_29 : decode prog_2_method_8_code 29 = .ok (.iload 5, 2) := by decide +kernel
theorem d67_31 : decode prog_2_method_8_code 31 = .ok (.bipush 43, 2) := by decide +kernel
theorem d67_33 : decode prog_2_method_8_code 33 = .ok (.if_icmp .eq 13, 3) := by decide +kernel
theorem d67_36 : decode prog_2_method_8_code 36 = .ok (.iload 5, 2) := by decide +kernel
theorem d67_38 : decode prog_2_method_8_code 38 = .ok (.bipush 45, 2) := by decide +kernel
theorem d67_40 : decode prog_2_method_8_code 40 = .ok (.if_icmp .eq 6, 3) := by decide +kernel
theorem d67_43 : decode prog_2_method_8_code 43 = .ok (.goto 49, 3) := by decide +kernel
theorem d67_46 : decode prog_2_method_8_code 46 = .ok (.aload_n 0, 1) := by decide +kernel
theorem d67_47 : decode prog_2_method_8_code 47 = .ok (.dup, 1) := by decide +kernel
theorem d67_48 : decode prog_2_method_8_code 48 = .ok (.getfield 74, 3) := by decide +kernel
theorem f67_74 : xFd (xMo 67) 74 = some (2, 2) := by decide +kernel
theorem d67_51 : decode prog_2_method_8_code 51 = .ok (.iconst 1, 1) := by decide +kernel
theorem d67_52 : decode prog_2_method_8_code 52 = .ok (.iadd, 1) := by decide +kernel
theorem d67_53 : decode prog_2_method_8_code 53 = .ok (.putfield 74, 3) := by decide +kernel
theorem d67_56 : decode prog_2_method_8_code 56 = .ok (.aload_n 0, 1) := by decide +kernel
theorem d67_57 : decode prog_2_method_8_code 57 = .ok (.iload_n 1, 1) := by decide +kernel
theorem d67_58 : decode prog_2_method_8_code 58 = .ok (.invokevirtual 106, 3) := by decide +kernel
theorem d67_61 : decode prog_2_method_8_code 61 = .ok (.lstore 6, 2) := by decide +kernel
theorem d67_63 : decode prog_2_method_8_code 63 = .ok (.aload_n 0, 1) := by decide +kernel
theorem d67_64 : decode prog_2_method_8_code 64 = .ok (.iload 5, 2) := by decide +kernel
theorem d67_66 : decode prog_2_method_8_code 66 = .ok (.bipush 43, 2) := by decide +kernel
theorem d67_68 : decode prog_2_method_8_code 68 = .ok (.if_icmp .ne 10, 3) := by decide +kernel
theorem d67_71 : decode prog_2_method_8_code 71 = .ok (.lload_n 2, 1) := by decide +kernel
theorem d67_72 : decode prog_2_method_8_code 72 = .ok (.lload 6, 2) := by decide +kernel
theorem d67_74 : decode prog_2_method_8_code 74 = .ok (.ladd, 1) := by decide +kernel
theorem d67_75 : decode prog_2_method_8_code 75 = .ok (.goto 7, 3) := by decide +kernel
theorem d67_78 : decode prog_2_method_8_code 78 = .ok (.lload_n 2, 1) := by decide +kernel
theorem d67_79 : decode prog_2_method_8_code 79 = .ok (.lload 6, 2) := by decide +kernel
theorem d67_81 : decode prog_2_method_8_code 81 = .ok (.lsub, 1) := by decide +kernel
theorem d67_82 : decode prog_2_method_8_code 82 = .ok (.invokevirtual 109, 3) := by decide +kernel
theorem k67_109_2 : xCa (xMo 67) 109 2 = some (1, 81, 1) := by decide +kernel
theorem n67_109 : xcn (xMo 67) 109 = some 1 := by decide +kernel
theorem d67_85 : decode prog_2_method_8_code 85 = .ok (.lstore_n 2, 1) := by decide +kernel
theorem d67_86 : decode prog_2_method_8_code 86 = .ok (.iinc 4 1, 3) := by decide +kernel
theorem d67_89 : decode prog_2_method_8_code 89 = .ok (.goto (-80), 3) := by decide +kernel
theorem d67_92 : decode prog_2_method_8_code 92 = .ok (.lload_n 2, 1) := by decide +kernel
theorem d67_93 : decode prog_2_method_8_code 93 = .ok (.lreturn, 1) := by decide +kernel
set_option maxRecDepth 100000 in
theorem q68 : xMc 68 = prog_2_method_9_code := rfl
theorem m68 : xMl 68 = 8 ∧ xMret 68 = (some FieldType.long) ∧ xMh 68 = [] := by decide +kernel
theorem e68 {X : xX} {d : Nat} {w : xH} {Q : xO → xH → Prop} (a : Nat) (x0 : Int32) : Cw X d 68 [.ref a, .int x0] w Q = Wx X d 68 0 [some (.ref a), some (.int x0), none, none, none, none, none, none] [] w Q := by
  unfold Cw
  rw [m68.1]
  rfl
theorem d68_0 : decode prog_2_method_9_code 0 = .ok (.aload_n 0, 1) := by decide +kernel
theorem d68_1 : decode prog_2_method_9_code 1 = .ok (.iload_n 1, 1) := by decide +kernel
theorem d68_2 : decode prog_2_method_9_code 2 = .ok (.invokevirtual 113, 3) := by decide +kernel
theorem k68_113_2 : xCa (xMo 68) 113 2 = some (1, 69, 1) := by decide +kernel
theorem n68_113 : xcn (xMo 68) 113 = some 1 := by decide +kernel
theorem d68_5 : decode prog_2_method_9_code 5 = .ok (.lstore_n 2, 1) := by decide +kernel
theorem d68_6 : decode prog_2_method_9_code 6 = .ok (.iconst 0, 1) := by decide +kernel
theorem d68_7 : decode prog_2_method_9_code 7 = .ok (.istore 4, 2) := by decide +kernel
theorem d68_9 : decode prog_2_method_9_code 9 = .ok (.iload 4, 2) := by decide +kernel
theorem d68_11 : decode prog_2_method_9_code 11 = .ok (.bipush 60, 2) := by decide +kernel
theorem d68_13 : decode prog_2_method_9_code 13 = .ok (.if_icmp .ge 82, 3) := by decide +kernel
theorem d68_16 : decode prog_2_method_9_code 16 = .ok (.aload_n 0, 1) := by decide +kernel
theorem d68_17 : decode prog_2_method_9_code 17 = .ok (.getfield 83, 3) := by decide +kernel
theorem f68_83 : xFd (xMo 68) 83 = some (2, 4) := by decide +kernel
theorem d68_20 : decode prog_2_method_9_code 20 = .ok (.ifCond .ne 75, 3) := by decide +kernel
theorem d68_23 : decode prog_2_method_9_code 23 = .ok (.aload_n 0, 1) := by decide +kernel
theorem d68_24 : decode prog_2_method_9_code 24 = .ok (.invokevirtual 102, 3) := by decide +kernel
theorem k68_102_2 : xCa (xMo 68) 102 2 = some (1, 70, 0) := by decide +kernel
theorem n68_102 : xcn (xMo 68) 102 = some 0 := by decide +kernel
theorem d68_27 : decode prog_2_method_9_code 27 = .ok (.istore 5, 2) := by decide +kernel
theorem d68_29 : decode prog_2_method_9_code 29 = .ok (.iload 5, 2) := by decide +kernel
theorem d68_31 : decode prog_2_method_9_code 31 = .ok (.bipush 42, 2) := by decide +kernel
theorem d68_33 : decode prog_2_method_9_code 33 = .ok (.if_icmp .eq 13, 3) := by decide +kernel
theorem d68_36 : decode prog_2_method_9_code 36 = .ok (.iload 5, 2) := by decide +kernel
theorem d68_38 : decode prog_2_method_9_code 38 = .ok (.bipush 47, 2) := by decide +kernel
theorem d68_40 : decode prog_2_method_9_code 40 = .ok (.if_icmp .eq 6, 3) := by decide +kernel
theorem d68_43 : decode prog_2_method_9_code 43 = .ok (.goto 52, 3) := by decide +kernel
theorem d68_46 : decode prog_2_method_9_code 46 = .ok (.aload_n 0, 1) := by decide +kernel
theorem d68_47 : decode prog_2_method_9_code 47 = .ok (.dup, 1) := by decide +kernel
theorem d68_48 : decode prog_2_method_9_code 48 = .ok (.getfield 74, 3) := by decide +kernel
theorem f68_74 : xFd (xMo 68) 74 = some (2, 2) := by decide +kernel
theorem d68_51 : decode prog_2_method_9_code 51 = .ok (.iconst 1, 1) := by decide +kernel
theorem d68_52 : decode prog_2_method_9_code 52 = .ok (.iadd, 1) := by decide +kernel
theorem d68_53 : decode prog_2_method_9_code 53 = .ok (.putfield 74, 3) := by decide +kernel
theorem d68_56 : decode prog_2_method_9_code 56 = .ok (.aload_n 0, 1) := by decide +kernel
theorem d68_57 : decode prog_2_method_9_code 57 = .ok (.iload_n 1, 1) := by decide +kernel
theorem d68_58 : decode prog_2_method_9_code 58 = .ok (.invokevirtual 113, 3) := by decide +kernel
theorem d68_61 : decode prog_2_method_9_code 61 = .ok (.lstore 6, 2) := by decide +kernel
theorem d68_63 : decode prog_2_method_9_code 63 = .ok (.iload 5, 2) := by decide +kernel
theorem d68_65 : decode prog_2_method_9_code 65 = .ok (.bipush 42, 2) := by decide +kernel
theorem d68_67 : decode prog_2_method_9_code 67 = .ok (.if_icmp .ne 14, 3) := by decide +kernel
theorem d68_70 : decode prog_2_method_9_code 70 = .ok (.aload_n 0, 1) := by decide +kernel
theorem d68_71 : decode prog_2_method_9_code 71 = .ok (.lload_n 2, 1) := by decide +kernel
theorem d68_72 : decode prog_2_method_9_code 72 = .ok (.lload 6, 2) := by decide +kernel
theorem d68_74 : decode prog_2_method_9_code 74 = .ok (.lmul, 1) := by decide +kernel
theorem d68_75 : decode prog_2_method_9_code 75 = .ok (.invokevirtual 109, 3) := by decide +kernel
theorem k68_109_2 : xCa (xMo 68) 109 2 = some (1, 81, 1) := by decide +kernel
theorem n68_109 : xcn (xMo 68) 109 = some 1 := by decide +kernel
theorem d68_78 : decode prog_2_method_9_code 78 = .ok (.goto 10, 3) := by decide +kernel
theorem d68_81 : decode prog_2_method_9_code 81 = .ok (.aload_n 0, 1) := by decide +kernel
theorem d68_82 : decode prog_2_method_9_code 82 = .ok (.lload_n 2, 1) := by decide +kernel
theorem d68_83 : decode prog_2_method_9_code 83 = .ok (.lload 6, 2) := by decide +kernel
theorem d68_85 : decode prog_2_method_9_code 85 = .ok (.invokevirtual 116, 3) := by decide +kernel
theorem k68_116_2 : xCa (xMo 68) 116 2 = some (1, 82, 2) := by decide +kernel
theorem n68_116 : xcn (xMo 68) 116 = some 2 := by decide +kernel
theorem d68_88 : decode prog_2_method_9_code 88 = .ok (.lstore_n 2, 1) := by decide +kernel
theorem d68_89 : decode prog_2_method_9_code 89 = .ok (.iinc 4 1, 3) := by decide +kernel
theorem d68_92 : decode prog_2_method_9_code 92 = .ok (.goto (-83), 3) := by decide +kernel
theorem d68_95 : decode prog_2_method_9_code 95 = .ok (.lload_n 2, 1) := by decide +kernel
theorem d68_96 : decode prog_2_method_9_code 96 = .ok (.lreturn, 1) := by decide +kernel
set_option maxRecDepth 100000 in
theorem q69 : xMc 69 = prog_2_method_11_code := rfl
theorem m69 : xMl 69 = 5 ∧ xMret 69 = (some FieldType.long) ∧ xMh 69 = [] := by decide +kernel
theorem e69 {X : xX} {d : Nat} {w : xH} {Q : xO → xH → Prop} (a : Nat) (x0 : Int32) : Cw X d 69 [.ref a, .int x0] w Q = Wx X d 69 0 [some (.ref a), some (.int x0), none, none, none] [] w Q := by
  unfold Cw
  rw [m69.1]
  rfl
theorem d69_0 : decode prog_2_method_11_code 0 = .ok (.iconst 0, 1) := by decide +kernel
theorem d69_1 : decode prog_2_method_11_code 1 = .ok (.istore_n 2, 1) := by decide +kernel
theorem d69_2 : decode prog_2_method_11_code 2 = .ok (.iconst 0, 1) := by decide +kernel
theorem d69_3 : decode prog_2_method_11_code 3 = .ok (.istore_n 3, 1) := by decide +kernel
theorem d69_4 : decode prog_2_method_11_code 4 = .ok (.iload_n 3, 1) := by decide +kernel
theorem d69_5 : decode prog_2_method_11_code 5 = .ok (.bipush 60, 2) := by decide +kernel
theorem d69_7 : decode prog_2_method_11_code 7 = .ok (.if_icmp .ge 38, 3) := by decide +kernel
theorem d69_10 : decode prog_2_method_11_code 10 = .ok (.aload_n 0, 1) := by decide +kernel
theorem d69_11 : decode prog_2_method_11_code 11 = .ok (.invokevirtual 102, 3) := by decide +kernel
theorem k69_102_2 : xCa (xMo 69) 102 2 = some (1, 70, 0) := by decide +kernel
theorem n69_102 : xcn (xMo 69) 102 = some 0 := by decide +kernel
theorem d69_14 : decode prog_2_method_11_code 14 = .ok (.bipush 45, 2) := by decide +kernel
theorem d69_16 : decode prog_2_method_11_code 16 = .ok (.if_icmp .ne 29, 3) := by decide +kernel
theorem d69_19 : decode prog_2_method_11_code 19 = .ok (.iload_n 2, 1) := by decide +kernel
theorem d69_20 : decode prog_2_method_11_code 20 = .ok (.ifCond .ne 7, 3) := by decide +kernel
theorem d69_23 : decode prog_2_method_11_code 23 = .ok (.iconst 1, 1) := by decide +kernel
theorem d69_24 : decode prog_2_method_11_code 24 = .ok (.goto 4, 3) := by decide +kernel
theorem d69_27 : decode prog_2_method_11_code 27 = .ok (.iconst 0, 1) := by decide +kernel
theorem d69_28 : decode prog_2_method_11_code 28 = .ok (.istore_n 2, 1) := by decide +kernel
theorem d69_29 : decode prog_2_method_11_code 29 = .ok (.aload_n 0, 1) := by decide +kernel
theorem d69_30 : decode prog_2_method_11_code 30 = .ok (.dup, 1) := by decide +kernel
theorem d69_31 : decode prog_2_method_11_code 31 = .ok (.getfield 74, 3) := by decide +kernel
theorem f69_74 : xFd (xMo 69) 74 = some (2, 2) := by decide +kernel
theorem d69_34 : decode prog_2_method_11_code 34 = .ok (.iconst 1, 1) := by decide +kernel
theorem d69_35 : decode prog_2_method_11_code 35 = .ok (.iadd, 1) := by decide +kernel
theorem d69_36 : decode prog_2_method_11_code 36 = .ok (.putfield 74, 3) := by decide +kernel
theorem d69_39 : decode prog_2_method_11_code 39 = .ok (.iinc 3 1, 3) := by decide +kernel
theorem d69_42 : decode prog_2_method_11_code 42 = .ok (.goto (-38), 3) := by decide +kernel
theorem d69_45 : decode prog_2_method_11_code 45 = .ok (.aload_n 0, 1) := by decide +kernel
theorem d69_46 : decode prog_2_method_11_code 46 = .ok (.iload_n 1, 1) := by decide +kernel
theorem d69_47 : decode prog_2_method_11_code 47 = .ok (.invokevirtual 125, 3) := by decide +kernel
theorem k69_125_2 : xCa (xMo 69) 125 2 = some (1, 72, 1) := by decide +kernel
theorem n69_125 : xcn (xMo 69) 125 = some 1 := by decide +kernel
theorem d69_50 : decode prog_2_method_11_code 50 = .ok (.lstore_n 3, 1) := by decide +kernel
theorem d69_51 : decode prog_2_method_11_code 51 = .ok (.iload_n 2, 1) := by decide +kernel
theorem d69_52 : decode prog_2_method_11_code 52 = .ok (.ifCond .eq 8, 3) := by decide +kernel
theorem d69_55 : decode prog_2_method_11_code 55 = .ok (.lload_n 3, 1) := by decide +kernel
theorem d69_56 : decode prog_2_method_11_code 56 = .ok (.lneg, 1) := by decide +kernel
theorem d69_57 : decode prog_2_method_11_code 57 = .ok (.goto 4, 3) := by decide +kernel
theorem d69_60 : decode prog_2_method_11_code 60 = .ok (.lload_n 3, 1) := by decide +kernel
theorem d69_61 : decode prog_2_method_11_code 61 = .ok (.lreturn, 1) := by decide +kernel
set_option maxRecDepth 100000 in
theorem q70 : xMc 70 = prog_2_method_22_code := rfl
theorem m70 : xMl 70 = 2 ∧ xMret 70 = (some FieldType.char) ∧ xMh 70 = [] := by decide +kernel
theorem e70 {X : xX} {d : Nat} {w : xH} {Q : xO → xH → Prop} (a : Nat) : Cw X d 70 [.ref a] w Q = Wx X d 70 0 [some (.ref a), none] [] w Q := by
  unfold Cw
  rw [m70.1]
  rfl
theorem d70_0 : decode prog_2_method_22_code 0 = .ok (.aload_n 0, 1) := by decide +kernel
theorem d70_1 : decode prog_2_method_22_code 1 = .ok (.invokevirtual 128, 3) := by decide +kernel
theorem k70_128_2 : xCa (xMo 70) 128 2 = some (1, 71, 0) := by decide +kernel
theorem n70_128 : xcn (xMo 70) 128 = some 0 := by decide +kernel
theorem d70_4 : decode prog_2_method_22_code 4 = .ok (.istore_n 1, 1) := by decide +kernel
theorem d70_5 : decode prog_2_method_22_code 5 = .ok (.iload_n 1, 1) := by decide +kernel
theorem d70_6 : decode prog_2_method_22_code 6 = .ok (.invokestatic 131, 3) := by decide +kernel
theorem k70_131_99 : xCa (xMo 70) 131 99 = some (0, 171, 1) := by decide +kernel
theorem d70_9 : decode prog_2_method_22_code 9 = .ok (.iconst 5, 1) := by decide +kernel
theorem d70_10 : decode prog_2_method_22_code 10 = .ok (.if_icmp .eq 5, 3) := by decide +kernel
theorem d70_13 : decode prog_2_method_22_code 13 = .ok (.iconst 0, 1) := by decide +kernel
theorem d70_14 : decode prog_2_method_22_code 14 = .ok (.ireturn, 1) := by decide +kernel
theorem d70_15 : decode prog_2_method_22_code 15 = .ok (.iload_n 1, 1) := by decide +kernel
theorem d70_16 : decode prog_2_method_22_code 16 = .ok (.invokestatic 137, 3) := by decide +kernel
theorem k70_137_99 : xCa (xMo 70) 137 99 = some (0, 169, 1) := by decide +kernel
theorem d70_19 : decode prog_2_method_22_code 19 = .ok (.i2c, 1) := by decide +kernel
theorem d70_20 : decode prog_2_method_22_code 20 = .ok (.ireturn, 1) := by decide +kernel
set_option maxRecDepth 100000 in
theorem q71 : xMc 71 = prog_2_method_21_code := rfl
theorem m71 : xMl 71 = 1 ∧ xMret 71 = (some FieldType.int) ∧ xMh 71 = [] := by decide +kernel
theorem e71 {X : xX} {d : Nat} {w : xH} {Q : xO → xH → Prop} (a : Nat) : Cw X d 71 [.ref a] w Q = Wx X d 71 0 [some (.ref a)] [] w Q := by
  unfold Cw
  rw [m71.1]
  rfl
theorem d71_0 : decode prog_2_method_21_code 0 = .ok (.aload_n 0, 1) := by decide +kernel
theorem d71_1 : decode prog_2_method_21_code 1 = .ok (.getfield 74, 3) := by decide +kernel
theorem f71_74 : xFd (xMo 71) 74 = some (2, 2) := by decide +kernel
theorem d71_4 : decode prog_2_method_21_code 4 = .ok (.ifCond .lt 44, 3) := by decide +kernel
theorem d71_7 : decode prog_2_method_21_code 7 = .ok (.aload_n 0, 1) := by decide +kernel
theorem d71_8 : decode prog_2_method_21_code 8 = .ok (.getfield 74, 3) := by decide +kernel
theorem d71_11 : decode prog_2_method_21_code 11 = .ok (.aload_n 0, 1) := by decide +kernel
theorem d71_12 : decode prog_2_method_21_code 12 = .ok (.getfield 80, 3) := by decide +kernel
theorem f71_80 : xFd (xMo 71) 80 = some (2, 3) := by decide +kernel
theorem d71_15 : decode prog_2_method_21_code 15 = .ok (.if_icmp .ge 33, 3) := by decide +kernel
theorem d71_18 : decode prog_2_method_21_code 18 = .ok (.aload_n 0, 1) := by decide +kernel
theorem d71_19 : decode prog_2_method_21_code 19 = .ok (.getfield 74, 3) := by decide +kernel
theorem d71_22 : decode prog_2_method_21_code 22 = .ok (.aload_n 0, 1) := by decide +kernel
theorem d71_23 : decode prog_2_method_21_code 23 = .ok (.getfield 14, 3) := by decide +kernel
theorem f71_14 : xFd (xMo 71) 14 = some (2, 0) := by decide +kernel
theorem d71_26 : decode prog_2_method_21_code 26 = .ok (.getfield 198, 3) := by decide +kernel
theorem f71_198 : xFd (xMo 71) 198 = some (9, 4) := by decide +kernel
theorem d71_29 : decode prog_2_method_21_code 29 = .ok (.arraylength, 1) := by decide +kernel
theorem d71_30 : decode prog_2_method_21_code 30 = .ok (.if_icmp .ge 18, 3) := by decide +kernel
theorem d71_33 : decode prog_2_method_21_code 33 = .ok (.aload_n 0, 1) := by decide +kernel
theorem d71_34 : decode prog_2_method_21_code 34 = .ok (.getfield 14, 3) := by decide +kernel
theorem d71_37 : decode prog_2_method_21_code 37 = .ok (.getfield 198, 3) := by decide +kernel
theorem d71_40 : decode prog_2_method_21_code 40 = .ok (.aload_n 0, 1) := by decide +kernel
theorem d71_41 : decode prog_2_method_21_code 41 = .ok (.getfield 74, 3) := by decide +kernel
theorem d71_44 : decode prog_2_method_21_code 44 = .ok (.iaload, 1) := by decide +kernel
theorem d71_45 : decode prog_2_method_21_code 45 = .ok (.goto 4, 3) := by decide +kernel
theorem d71_48 : decode prog_2_method_21_code 48 = .ok (.iconst 0, 1) := by decide +kernel
theorem d71_49 : decode prog_2_method_21_code 49 = .ok (.ireturn, 1) := by decide +kernel
set_option maxRecDepth 100000 in
theorem q72 : xMc 72 = prog_2_method_12_code := rfl
theorem m72 : xMl 72 = 3 ∧ xMret 72 = (some FieldType.long) ∧ xMh 72 = [] := by decide +kernel
theorem e72 {X : xX} {d : Nat} {w : xH} {Q : xO → xH → Prop} (a : Nat) (x0 : Int32) : Cw X d 72 [.ref a, .int x0] w Q = Wx X d 72 0 [some (.ref a), some (.int x0), none] [] w Q := by
  unfold Cw
  rw [m72.1]
  rfl
theorem d72_0 : decode prog_2_method_12_code 0 = .ok (.aload_n 0, 1) := by decide +kernel
theorem d72_1 : decode prog_2_method_12_code 1 = .ok (.invokevirtual 128, 3) := by decide +kernel
theorem k72_128_2 : xCa (xMo 72) 128 2 = some (1, 71, 0) := by decide +kernel
theorem n72_128 : xcn (xMo 72) 128 = some 0 := by decide +kernel
theorem d72_4 : decode prog_2_method_12_code 4 = .ok (.istore_n 2, 1) := by decide +kernel
theorem d72_5 : decode prog_2_method_12_code 5 = .ok (.aload_n 0, 1) := by decide +kernel
theorem d72_6 : decode prog_2_method_12_code 6 = .ok (.dup, 1) := by decide +kernel
theorem d72_7 : decode prog_2_method_12_code 7 = .ok (.getfield 74, 3) := by decide +kernel
theorem f72_74 : xFd (xMo 72) 74 = some (2, 2) := by decide +kernel
theorem d72_10 : decode prog_2_method_12_code 10 = .ok (.iconst 1, 1) := by decide +kernel
theorem d72_11 : decode prog_2_method_12_code 11 = .ok (.iadd, 1) := by decide +kernel
theorem d72_12 : decode prog_2_method_12_code 12 = .ok (.putfield 74, 3) := by decide +kernel
theorem d72_15 : decode prog_2_method_12_code 15 = .ok (.iload_n 2, 1) := by decide +kernel
theorem d72_16 : decode prog_2_method_12_code 16 = .ok (.invokestatic 131, 3) := by decide +kernel
theorem k72_131_99 : xCa (xMo 72) 131 99 = some (0, 171, 1) := by decide +kernel
theorem d72_19 : decode prog_2_method_12_code 19 = .ok (.tableswitch 75 1 6 #[37, 43, 75, 75, 67, 55], 37) := by decide +kernel
theorem d72_56 : decode prog_2_method_12_code 56 = .ok (.iload_n 2, 1) := by decide +kernel
theorem d72_57 : decode prog_2_method_12_code 57 = .ok (.invokestatic 137, 3) := by decide +kernel
theorem k72_137_99 : xCa (xMo 72) 137 99 = some (0, 169, 1) := by decide +kernel
theorem d72_60 : decode prog_2_method_12_code 60 = .ok (.i2l, 1) := by decide +kernel
theorem d72_61 : decode prog_2_method_12_code 61 = .ok (.lreturn, 1) := by decide +kernel
theorem d72_62 : decode prog_2_method_12_code 62 = .ok (.aload_n 0, 1) := by decide +kernel
theorem d72_63 : decode prog_2_method_12_code 63 = .ok (.iload_n 2, 1) := by decide +kernel
theorem d72_64 : decode prog_2_method_12_code 64 = .ok (.invokestatic 137, 3) := by decide +kernel
theorem d72_67 : decode prog_2_method_12_code 67 = .ok (.invokestatic 140, 3) := by decide +kernel
theorem k72_140_99 : xCa (xMo 72) 140 99 = some (0, 172, 1) := by decide +kernel
theorem d72_70 : decode prog_2_method_12_code 70 = .ok (.invokevirtual 143, 3) := by decide +kernel
theorem k72_143_2 : xCa (xMo 72) 143 2 = some (1, 73, 1) := by decide +kernel
theorem n72_143 : xcn (xMo 72) 143 = some 1 := by decide +kernel
theorem d72_73 : decode prog_2_method_12_code 73 = .ok (.lreturn, 1) := by decide +kernel
theorem d72_74 : decode prog_2_method_12_code 74 = .ok (.aload_n 0, 1) := by decide +kernel
theorem d72_75 : decode prog_2_method_12_code 75 = .ok (.iload_n 2, 1) := by decide +kernel
theorem d72_76 : decode prog_2_method_12_code 76 = .ok (.invokestatic 137, 3) := by decide +kernel
theorem d72_79 : decode prog_2_method_12_code 79 = .ok (.iload_n 1, 1) := by decide +kernel
theorem d72_80 : decode prog_2_method_12_code 80 = .ok (.iconst 1, 1) := by decide +kernel
theorem d72_81 : decode prog_2_method_12_code 81 = .ok (.iadd, 1) := by decide +kernel
theorem d72_82 : decode prog_2_method_12_code 82 = .ok (.invokevirtual 146, 3) := by decide +kernel
theorem k72_146_2 : xCa (xMo 72) 146 2 = some (1, 74, 2) := by decide +kernel
theorem n72_146 : xcn (xMo 72) 146 = some 2 := by decide +kernel
theorem d72_85 : decode prog_2_method_12_code 85 = .ok (.lreturn, 1) := by decide +kernel
theorem d72_86 : decode prog_2_method_12_code 86 = .ok (.aload_n 0, 1) := by decide +kernel
theorem d72_87 : decode prog_2_method_12_code 87 = .ok (.iload_n 1, 1) := by decide +kernel
theorem d72_88 : decode prog_2_method_12_code 88 = .ok (.iconst 1, 1) := by decide +kernel
theorem d72_89 : decode prog_2_method_12_code 89 = .ok (.iadd, 1) := by decide +kernel
theorem d72_90 : decode prog_2_method_12_code 90 = .ok (.invokevirtual 150, 3) := by decide +kernel
theorem k72_150_2 : xCa (xMo 72) 150 2 = some (1, 77, 1) := by decide +kernel
theorem n72_150 : xcn (xMo 72) 150 = some 1 := by decide +kernel
theorem d72_93 : decode prog_2_method_12_code 93 = .ok (.lreturn, 1) := by decide +kernel
theorem d72_94 : decode prog_2_method_12_code 94 = .ok (.aload_n 0, 1) := by decide +kernel
theorem d72_95 : decode prog_2_method_12_code 95 = .ok (.iconst 3, 1) := by decide +kernel
theorem d72_96 : decode prog_2_method_12_code 96 = .ok (.invokevirtual 96, 3) := by decide +kernel
theorem k72_96_2 : xCa (xMo 72) 96 2 = some (1, 66, 1) := by decide +kernel
theorem n72_96 : xcn (xMo 72) 96 = some 1 := by decide +kernel
theorem d72_99 : decode prog_2_method_12_code 99 = .ok (.lreturn, 1) := by decide +kernel
set_option maxRecDepth 100000 in
theorem q73 : xMc 73 = prog_2_method_13_code := rfl
theorem m73 : xMl 73 = 2 ∧ xMret 73 = (some FieldType.long) ∧ xMh 73 = [] := by decide +kernel
theorem e73 {X : xX} {d : Nat} {w : xH} {Q : xO → xH → Prop} (a : Nat) (x0 : Int32) : Cw X d 73 [.ref a, .int x0] w Q = Wx X d 73 0 [some (.ref a), some (.int x0)] [] w Q := by
  unfold Cw
  rw [m73.1]
  rfl
theorem d73_0 : decode prog_2_method_13_code 0 = .ok (.aload_n 0, 1) := by decide +kernel
theorem d73_1 : decode prog_2_method_13_code 1 = .ok (.getfield 14, 3) := by decide +kernel
theorem f73_14 : xFd (xMo 73) 14 = some (2, 0) := by decide +kernel
theorem d73_4 : decode prog_2_method_13_code 4 = .ok (.getfield 153, 3) := by decide +kernel
theorem f73_153 : xFd (xMo 73) 153 = some (9, 2) := by decide +kernel
theorem d73_7 : decode prog_2_method_13_code 7 = .ok (.iload_n 1, 1) := by decide +kernel
theorem d73_8 : decode prog_2_method_13_code 8 = .ok (.iaload, 1) := by decide +kernel
theorem d73_9 : decode prog_2_method_13_code 9 = .ok (.ifCond .eq 17, 3) := by decide +kernel
theorem d73_12 : decode prog_2_method_13_code 12 = .ok (.aload_n 0, 1) := by decide +kernel
theorem d73_13 : decode prog_2_method_13_code 13 = .ok (.aload_n 0, 1) := by decide +kernel
theorem d73_14 : decode prog_2_method_13_code 14 = .ok (.getfield 14, 3) := by decide +kernel
theorem d73_17 : decode prog_2_method_13_code 17 = .ok (.getfield 153, 3) := by decide +kernel
theorem d73_20 : decode prog_2_method_13_code 20 = .ok (.iload_n 1, 1) := by decide +kernel
theorem d73_21 : decode prog_2_method_13_code 21 = .ok (.iaload, 1) := by decide +kernel
theorem d73_22 : decode prog_2_method_13_code 22 = .ok (.invokevirtual 96, 3) := by decide +kernel
theorem k73_96_2 : xCa (xMo 73) 96 2 = some (1, 66, 1) := by decide +kernel
theorem n73_96 : xcn (xMo 73) 96 = some 1 := by decide +kernel
theorem d73_25 : decode prog_2_method_13_code 25 = .ok (.lreturn, 1) := by decide +kernel
theorem d73_26 : decode prog_2_method_13_code 26 = .ok (.aload_n 0, 1) := by decide +kernel
theorem d73_27 : decode prog_2_method_13_code 27 = .ok (.getfield 14, 3) := by decide +kernel
theorem d73_30 : decode prog_2_method_13_code 30 = .ok (.getfield 156, 3) := by decide +kernel
theorem f73_156 : xFd (xMo 73) 156 = some (9, 1) := by decide +kernel
theorem d73_33 : decode prog_2_method_13_code 33 = .ok (.iload_n 1, 1) := by decide +kernel
theorem d73_34 : decode prog_2_method_13_code 34 = .ok (.iaload, 1) := by decide +kernel
theorem d73_35 : decode prog_2_method_13_code 35 = .ok (.i2l, 1) := by decide +kernel
theorem d73_36 : decode prog_2_method_13_code 36 = .ok (.lreturn, 1) := by decide +kernel
set_option maxRecDepth 100000 in
theorem q74 : xMc 74 = prog_2_method_14_code := rfl
theorem m74 : xMl 74 = 3 ∧ xMret 74 = (some FieldType.long) ∧ xMh 74 = [] := by decide +kernel
theorem e74 {X : xX} {d : Nat} {w : xH} {Q : xO → xH → Prop} (a : Nat) (x0 : Int32) (x1 : Int32) : Cw X d 74 [.ref a, .int x0, .int x1] w Q = Wx X d 74 0 [some (.ref a), some (.int x0), some (.int x1)] [] w Q := by
  unfold Cw
  rw [m74.1]
  rfl
theorem d74_0 : decode prog_2_method_14_code 0 = .ok (.iload_n 1, 1) := by decide +kernel
theorem d74_1 : decode prog_2_method_14_code 1 = .ok (.iconst 5, 1) := by decide +kernel
theorem d74_2 : decode prog_2_method_14_code 2 = .ok (.if_icmp .ne 9, 3) := by decide +kernel
theorem d74_5 : decode prog_2_method_14_code 5 = .ok (.aload_n 0, 1) := by decide +kernel
theorem d74_6 : decode prog_2_method_14_code 6 = .ok (.iload_n 2, 1) := by decide +kernel
theorem d74_7 : decode prog_2_method_14_code 7 = .ok (.invokevirtual 159, 3) := by decide +kernel
theorem k74_159_2 : xCa (xMo 74) 159 2 = some (1, 75, 1) := by decide +kernel
theorem n74_159 : xcn (xMo 74) 159 = some 1 := by decide +kernel
theorem d74_10 : decode prog_2_method_14_code 10 = .ok (.lreturn, 1) := by decide +kernel
theorem d74_11 : decode prog_2_method_14_code 11 = .ok (.iload_n 1, 1) := by decide +kernel
theorem d74_12 : decode prog_2_method_14_code 12 = .ok (.iconst 4, 1) := by decide +kernel
theorem d74_13 : decode prog_2_method_14_code 13 = .ok (.if_icmp .ne 12, 3) := by decide +kernel
theorem d74_16 : decode prog_2_method_14_code 16 = .ok (.aload_n 0, 1) := by decide +kernel
theorem d74_17 : decode prog_2_method_14_code 17 = .ok (.iload_n 2, 1) := by decide +kernel
theorem d74_18 : decode prog_2_method_14_code 18 = .ok (.invokevirtual 150, 3) := by decide +kernel
theorem k74_150_2 : xCa (xMo 74) 150 2 = some (1, 77, 1) := by decide +kernel
theorem n74_150 : xcn (xMo 74) 150 = some 1 := by decide +kernel
theorem d74_21 : decode prog_2_method_14_code 21 = .ok (.invokestatic 162, 3) := by decide +kernel
theorem k74_162_99 : xCa (xMo 74) 162 99 = some (0, 411, 1) := by decide +kernel
theorem d74_24 : decode prog_2_method_14_code 24 = .ok (.lreturn, 1) := by decide +kernel
theorem d74_25 : decode prog_2_method_14_code 25 = .ok (.aload_n 0, 1) := by decide +kernel
theorem d74_26 : decode prog_2_method_14_code 26 = .ok (.iload_n 1, 1) := by decide +kernel
theorem d74_27 : decode prog_2_method_14_code 27 = .ok (.iload_n 2, 1) := by decide +kernel
theorem d74_28 : decode prog_2_method_14_code 28 = .ok (.invokevirtual 165, 3) := by decide +kernel
theorem k74_165_2 : xCa (xMo 74) 165 2 = some (1, 78, 2) := by decide +kernel
theorem n74_165 : xcn (xMo 74) 165 = some 2 := by decide +kernel
theorem d74_31 : decode prog_2_method_14_code 31 = .ok (.lreturn, 1) := by decide +kernel
set_option maxRecDepth 100000 in
theorem q75 : xMc 75 = prog_2_method_16_code := rfl
theorem m75 : xMl 75 = 5 ∧ xMret 75 = (some FieldType.long) ∧ xMh 75 = [] := by decide +kernel
theorem e75 {X : xX} {d : Nat} {w : xH} {Q : xO → xH → Prop} (a : Nat) (x0 : Int32) : Cw X d 75 [.ref a, .int x0] w Q = Wx X d 75 0 [some (.ref a), some (.int x0), none, none, none] [] w Q := by
  unfold Cw
  rw [m75.1]
  rfl
theorem d75_0 : decode prog_2_method_16_code 0 = .ok (.aload_n 0, 1) := by decide +kernel
theorem d75_1 : decode prog_2_method_16_code 1 = .ok (.iload_n 1, 1) := by decide +kernel
theorem d75_2 : decode prog_2_method_16_code 2 = .ok (.invokevirtual 86, 3) := by decide +kernel
theorem k75_86_2 : xCa (xMo 75) 86 2 = some (1, 65, 1) := by decide +kernel
theorem n75_86 : xcn (xMo 75) 86 = some 1 := by decide +kernel
theorem d75_5 : decode prog_2_method_16_code 5 = .ok (.lconst 0, 1) := by decide +kernel
theorem d75_6 : decode prog_2_method_16_code 6 = .ok (.lcmp, 1) := by decide +kernel
theorem d75_7 : decode prog_2_method_16_code 7 = .ok (.ifCond .eq 7, 3) := by decide +kernel
theorem d75_10 : decode prog_2_method_16_code 10 = .ok (.iconst 1, 1) := by decide +kernel
theorem d75_11 : decode prog_2_method_16_code 11 = .ok (.goto 4, 3) := by decide +kernel
theorem d75_14 : decode prog_2_method_16_code 14 = .ok (.iconst 0, 1) := by decide +kernel
theorem d75_15 : decode prog_2_method_16_code 15 = .ok (.istore_n 2, 1) := by decide +kernel
theorem d75_16 : decode prog_2_method_16_code 16 = .ok (.aload_n 0, 1) := by decide +kernel
theorem d75_17 : decode prog_2_method_16_code 17 = .ok (.getfield 83, 3) := by decide +kernel
theorem f75_83 : xFd (xMo 75) 83 = some (2, 4) := by decide +kernel
theorem d75_20 : decode prog_2_method_16_code 20 = .ok (.ifCond .eq 5, 3) := by decide +kernel
theorem d75_23 : decode prog_2_method_16_code 23 = .ok (.lconst 0, 1) := by decide +kernel
theorem d75_24 : decode prog_2_method_16_code 24 = .ok (.lreturn, 1) := by decide +kernel
theorem d75_25 : decode prog_2_method_16_code 25 = .ok (.aload_n 0, 1) := by decide +kernel
theorem d75_26 : decode prog_2_method_16_code 26 = .ok (.dup, 1) := by decide +kernel
theorem d75_27 : decode prog_2_method_16_code 27 = .ok (.getfield 74, 3) := by decide +kernel
theorem f75_74 : xFd (xMo 75) 74 = some (2, 2) := by decide +kernel
theorem d75_30 : decode prog_2_method_16_code 30 = .ok (.iconst 1, 1) := by decide +kernel
theorem d75_31 : decode prog_2_method_16_code 31 = .ok (.iadd, 1) := by decide +kernel
theorem d75_32 : decode prog_2_method_16_code 32 = .ok (.putfield 74, 3) := by decide +kernel
theorem d75_35 : decode prog_2_method_16_code 35 = .ok (.iload_n 2, 1) := by decide +kernel
theorem d75_36 : decode prog_2_method_16_code 36 = .ok (.ifCond .ne 17, 3) := by decide +kernel
theorem d75_39 : decode prog_2_method_16_code 39 = .ok (.aload_n 0, 1) := by decide +kernel
theorem d75_40 : decode prog_2_method_16_code 40 = .ok (.invokevirtual 168, 3) := by decide +kernel
theorem k75_168_2 : xCa (xMo 75) 168 2 = some (1, 76, 0) := by decide +kernel
theorem n75_168 : xcn (xMo 75) 168 = some 0 := by decide +kernel
theorem d75_43 : decode prog_2_method_16_code 43 = .ok (.aload_n 0, 1) := by decide +kernel
theorem d75_44 : decode prog_2_method_16_code 44 = .ok (.dup, 1) := by decide +kernel
theorem d75_45 : decode prog_2_method_16_code 45 = .ok (.getfield 74, 3) := by decide +kernel
theorem d75_48 : decode prog_2_method_16_code 48 = .ok (.iconst 1, 1) := by decide +kernel
theorem d75_49 : decode prog_2_method_16_code 49 = .ok (.iadd, 1) := by decide +kernel
theorem d75_50 : decode prog_2_method_16_code 50 = .ok (.putfield 74, 3) := by decide +kernel
theorem d75_53 : decode prog_2_method_16_code 53 = .ok (.aload_n 0, 1) := by decide +kernel
theorem d75_54 : decode prog_2_method_16_code 54 = .ok (.iload_n 1, 1) := by decide +kernel
theorem d75_55 : decode prog_2_method_16_code 55 = .ok (.invokevirtual 86, 3) := by decide +kernel
theorem d75_58 : decode prog_2_method_16_code 58 = .ok (.lstore_n 3, 1) := by decide +kernel
theorem d75_59 : decode prog_2_method_16_code 59 = .ok (.iload_n 2, 1) := by decide +kernel
theorem d75_60 : decode prog_2_method_16_code 60 = .ok (.ifCond .eq 17, 3) := by decide +kernel
theorem d75_63 : decode prog_2_method_16_code 63 = .ok (.aload_n 0, 1) := by decide +kernel
theorem d75_64 : decode prog_2_method_16_code 64 = .ok (.dup, 1) := by decide +kernel
theorem d75_65 : decode prog_2_method_16_code 65 = .ok (.getfield 74, 3) := by decide +kernel
theorem d75_68 : decode prog_2_method_16_code 68 = .ok (.iconst 1, 1) := by decide +kernel
theorem d75_69 : decode prog_2_method_16_code 69 = .ok (.iadd, 1) := by decide +kernel
theorem d75_70 : decode prog_2_method_16_code 70 = .ok (.putfield 74, 3) := by decide +kernel
theorem d75_73 : decode prog_2_method_16_code 73 = .ok (.aload_n 0, 1) := by decide +kernel
theorem d75_74 : decode prog_2_method_16_code 74 = .ok (.invokevirtual 168, 3) := by decide +kernel
theorem d75_77 : decode prog_2_method_16_code 77 = .ok (.aload_n 0, 1) := by decide +kernel
theorem d75_78 : decode prog_2_method_16_code 78 = .ok (.dup, 1) := by decide +kernel
theorem d75_79 : decode prog_2_method_16_code 79 = .ok (.getfield 74, 3) := by decide +kernel
theorem d75_82 : decode prog_2_method_16_code 82 = .ok (.iconst 1, 1) := by decide +kernel
theorem d75_83 : decode prog_2_method_16_code 83 = .ok (.iadd, 1) := by decide +kernel
theorem d75_84 : decode prog_2_method_16_code 84 = .ok (.putfield 74, 3) := by decide +kernel
theorem d75_87 : decode prog_2_method_16_code 87 = .ok (.lload_n 3, 1) := by decide +kernel
theorem d75_88 : decode prog_2_method_16_code 88 = .ok (.lreturn, 1) := by decide +kernel
set_option maxRecDepth 100000 in
theorem q76 : xMc 76 = prog_2_method_17_code := rfl
theorem m76 : xMl 76 = 3 ∧ xMret 76 = none ∧ xMh 76 = [] := by decide +kernel
theorem e76 {X : xX} {d : Nat} {w : xH} {Q : xO → xH → Prop} (a : Nat) : Cw X d 76 [.ref a] w Q = Wx X d 76 0 [some (.ref a), none, none] [] w Q := by
  unfold Cw
  rw [m76.1]
  rfl
theorem d76_0 : decode prog_2_method_17_code 0 = .ok (.iconst 0, 1) := by decide +kernel
theorem d76_1 : decode prog_2_method_17_code 1 = .ok (.istore_n 1, 1) := by decide +kernel
theorem d76_2 : decode prog_2_method_17_code 2 = .ok (.iconst 0, 1) := by decide +kernel
theorem d76_3 : decode prog_2_method_17_code 3 = .ok (.istore_n 2, 1) := by decide +kernel
theorem d76_4 : decode prog_2_method_17_code 4 = .ok (.iload_n 2, 1) := by decide +kernel
theorem d76_5 : decode prog_2_method_17_code 5 = .ok (.bipush 60, 2) := by decide +kernel
theorem d76_7 : decode prog_2_method_17_code 7 = .ok (.if_icmp .ge 83, 3) := by decide +kernel
theorem d76_10 : decode prog_2_method_17_code 10 = .ok (.aload_n 0, 1) := by decide +kernel
theorem d76_11 : decode prog_2_method_17_code 11 = .ok (.getfield 74, 3) := by decide +kernel
theorem f76_74 : xFd (xMo 76) 74 = some (2, 2) := by decide +kernel
theorem d76_14 : decode prog_2_method_17_code 14 = .ok (.aload_n 0, 1) := by decide +kernel
theorem d76_15 : decode prog_2_method_17_code 15 = .ok (.getfield 80, 3) := by decide +kernel
theorem f76_80 : xFd (xMo 76) 80 = some (2, 3) := by decide +kernel
theorem d76_18 : decode prog_2_method_17_code 18 = .ok (.if_icmp .ge 72, 3) := by decide +kernel
theorem d76_21 : decode prog_2_method_17_code 21 = .ok (.iload_n 1, 1) := by decide +kernel
theorem d76_22 : decode prog_2_method_17_code 22 = .ok (.ifCond .ne 24, 3) := by decide +kernel
theorem d76_25 : decode prog_2_method_17_code 25 = .ok (.aload_n 0, 1) := by decide +kernel
theorem d76_26 : decode prog_2_method_17_code 26 = .ok (.invokevirtual 102, 3) := by decide +kernel
theorem k76_102_2 : xCa (xMo 76) 102 2 = some (1, 70, 0) := by decide +kernel
theorem n76_102 : xcn (xMo 76) 102 = some 0 := by decide +kernel
theorem d76_29 : decode prog_2_method_17_code 29 = .ok (.bipush 44, 2) := by decide +kernel
theorem d76_31 : decode prog_2_method_17_code 31 = .ok (.if_icmp .eq 59, 3) := by decide +kernel
theorem d76_34 : decode prog_2_method_17_code 34 = .ok (.aload_n 0, 1) := by decide +kernel
theorem d76_35 : decode prog_2_method_17_code 35 = .ok (.invokevirtual 102, 3) := by decide +kernel
theorem d76_38 : decode prog_2_method_17_code 38 = .ok (.bipush 41, 2) := by decide +kernel
theorem d76_40 : decode prog_2_method_17_code 40 = .ok (.if_icmp .ne 6, 3) := by decide +kernel
theorem d76_43 : decode prog_2_method_17_code 43 = .ok (.goto 47, 3) := by decide +kernel
theorem d76_46 : decode prog_2_method_17_code 46 = .ok (.aload_n 0, 1) := by decide +kernel
theorem d76_47 : decode prog_2_method_17_code 47 = .ok (.invokevirtual 128, 3) := by decide +kernel
theorem k76_128_2 : xCa (xMo 76) 128 2 = some (1, 71, 0) := by decide +kernel
theorem n76_128 : xcn (xMo 76) 128 = some 0 := by decide +kernel
theorem d76_50 : decode prog_2_method_17_code 50 = .ok (.invokestatic 171, 3) := by decide +kernel
theorem k76_171_99 : xCa (xMo 76) 171 99 = some (0, 175, 1) := by decide +kernel
theorem d76_53 : decode prog_2_method_17_code 53 = .ok (.ifCond .eq 9, 3) := by decide +kernel
theorem d76_56 : decode prog_2_method_17_code 56 = .ok (.iinc 1 1, 3) := by decide +kernel
theorem d76_59 : decode prog_2_method_17_code 59 = .ok (.goto 15, 3) := by decide +kernel
theorem d76_62 : decode prog_2_method_17_code 62 = .ok (.aload_n 0, 1) := by decide +kernel
theorem d76_63 : decode prog_2_method_17_code 63 = .ok (.invokevirtual 102, 3) := by decide +kernel
theorem d76_66 : decode prog_2_method_17_code 66 = .ok (.bipush 41, 2) := by decide +kernel
theorem d76_68 : decode prog_2_method_17_code 68 = .ok (.if_icmp .ne 6, 3) := by decide +kernel
theorem d76_71 : decode prog_2_method_17_code 71 = .ok (.iinc 1 (-1), 3) := by decide +kernel
theorem d76_74 : decode prog_2_method_17_code 74 = .ok (.aload_n 0, 1) := by decide +kernel
theorem d76_75 : decode prog_2_method_17_code 75 = .ok (.dup, 1) := by decide +kernel
theorem d76_76 : decode prog_2_method_17_code 76 = .ok (.getfield 74, 3) := by decide +kernel
theorem d76_79 : decode prog_2_method_17_code 79 = .ok (.iconst 1, 1) := by decide +kernel
theorem d76_80 : decode prog_2_method_17_code 80 = .ok (.iadd, 1) := by decide +kernel
theorem d76_81 : decode prog_2_method_17_code 81 = .ok (.putfield 74, 3) := by decide +kernel
theorem d76_84 : decode prog_2_method_17_code 84 = .ok (.iinc 2 1, 3) := by decide +kernel
theorem d76_87 : decode prog_2_method_17_code 87 = .ok (.goto (-83), 3) := by decide +kernel
theorem d76_90 : decode prog_2_method_17_code 90 = .ok (.return_, 1) := by decide +kernel
set_option maxRecDepth 100000 in
theorem q77 : xMc 77 = prog_2_method_15_code := rfl
theorem m77 : xMl 77 = 4 ∧ xMret 77 = (some FieldType.long) ∧ xMh 77 = [] := by decide +kernel
theorem e77 {X : xX} {d : Nat} {w : xH} {Q : xO → xH → Prop} (a : Nat) (x0 : Int32) : Cw X d 77 [.ref a, .int x0] w Q = Wx X d 77 0 [some (.ref a), some (.int x0), none, none] [] w Q := by
  unfold Cw
  rw [m77.1]
  rfl
theorem d77_0 : decode prog_2_method_15_code 0 = .ok (.aload_n 0, 1) := by decide +kernel
theorem d77_1 : decode prog_2_method_15_code 1 = .ok (.iload_n 1, 1) := by decide +kernel
theorem d77_2 : decode prog_2_method_15_code 2 = .ok (.invokevirtual 86, 3) := by decide +kernel
theorem k77_86_2 : xCa (xMo 77) 86 2 = some (1, 65, 1) := by decide +kernel
theorem n77_86 : xcn (xMo 77) 86 = some 1 := by decide +kernel
theorem d77_5 : decode prog_2_method_15_code 5 = .ok (.lstore_n 2, 1) := by decide +kernel
theorem d77_6 : decode prog_2_method_15_code 6 = .ok (.aload_n 0, 1) := by decide +kernel
theorem d77_7 : decode prog_2_method_15_code 7 = .ok (.dup, 1) := by decide +kernel
theorem d77_8 : decode prog_2_method_15_code 8 = .ok (.getfield 74, 3) := by decide +kernel
theorem f77_74 : xFd (xMo 77) 74 = some (2, 2) := by decide +kernel
theorem d77_11 : decode prog_2_method_15_code 11 = .ok (.iconst 1, 1) := by decide +kernel
theorem d77_12 : decode prog_2_method_15_code 12 = .ok (.iadd, 1) := by decide +kernel
theorem d77_13 : decode prog_2_method_15_code 13 = .ok (.putfield 74, 3) := by decide +kernel
theorem d77_16 : decode prog_2_method_15_code 16 = .ok (.lload_n 2, 1) := by decide +kernel
theorem d77_17 : decode prog_2_method_15_code 17 = .ok (.lreturn, 1) := by decide +kernel
set_option maxRecDepth 100000 in
theorem q78 : xMc 78 = prog_2_method_18_code := rfl
theorem m78 : xMl 78 = 7 ∧ xMret 78 = (some FieldType.long) ∧ xMh 78 = [] := by decide +kernel
theorem e78 {X : xX} {d : Nat} {w : xH} {Q : xO → xH → Prop} (a : Nat) (x0 : Int32) (x1 : Int32) : Cw X d 78 [.ref a, .int x0, .int x1] w Q = Wx X d 78 0 [some (.ref a), some (.int x0), some (.int x1), none, none, none, none] [] w Q := by
  unfold Cw
  rw [m78.1]
  rfl
theorem d78_0 : decode prog_2_method_18_code 0 = .ok (.iload_n 1, 1) := by decide +kernel
theorem d78_1 : decode prog_2_method_18_code 1 = .ok (.iconst 1, 1) := by decide +kernel
theorem d78_2 : decode prog_2_method_18_code 2 = .ok (.if_icmp .eq 8, 3) := by decide +kernel
theorem d78_5 : decode prog_2_method_18_code 5 = .ok (.iload_n 1, 1) := by decide +kernel
theorem d78_6 : decode prog_2_method_18_code 6 = .ok (.iconst 2, 1) := by decide +kernel
theorem d78_7 : decode prog_2_method_18_code 7 = .ok (.if_icmp .ne 9, 3) := by decide +kernel
theorem d78_10 : decode prog_2_method_18_code 10 = .ok (.ldc2_w 175, 3) := by decide +kernel
theorem d78_13 : decode prog_2_method_18_code 13 = .ok (.goto 4, 3) := by decide +kernel
theorem d78_16 : decode prog_2_method_18_code 16 = .ok (.lconst 0, 1) := by decide +kernel
theorem d78_17 : decode prog_2_method_18_code 17 = .ok (.lstore_n 3, 1) := by decide +kernel
theorem d78_18 : decode prog_2_method_18_code 18 = .ok (.iconst 0, 1) := by decide +kernel
theorem d78_19 : decode prog_2_method_18_code 19 = .ok (.istore 5, 2) := by decide +kernel
theorem d78_21 : decode prog_2_method_18_code 21 = .ok (.iload 5, 2) := by decide +kernel
theorem d78_23 : decode prog_2_method_18_code 23 = .ok (.bipush 60, 2) := by decide +kernel
theorem d78_25 : decode prog_2_method_18_code 25 = .ok (.if_icmp .ge 97, 3) := by decide +kernel
theorem d78_28 : decode prog_2_method_18_code 28 = .ok (.aload_n 0, 1) := by decide +kernel
theorem d78_29 : decode prog_2_method_18_code 29 = .ok (.getfield 83, 3) := by decide +kernel
theorem f78_83 : xFd (xMo 78) 83 = some (2, 4) := by decide +kernel
theorem d78_32 : decode prog_2_method_18_code 32 = .ok (.ifCond .ne 90, 3) := by decide +kernel
theorem d78_35 : decode prog_2_method_18_code 35 = .ok (.aload_n 0, 1) := by decide +kernel
theorem d78_36 : decode prog_2_method_18_code 36 = .ok (.invokevirtual 128, 3) := by decide +kernel
theorem k78_128_2 : xCa (xMo 78) 128 2 = some (1, 71, 0) := by decide +kernel
theorem n78_128 : xcn (xMo 78) 128 = some 0 := by decide +kernel
theorem d78_39 : decode prog_2_method_18_code 39 = .ok (.invokestatic 131, 3) := by decide +kernel
theorem k78_131_99 : xCa (xMo 78) 131 99 = some (0, 171, 1) := by decide +kernel
theorem d78_42 : decode prog_2_method_18_code 42 = .ok (.iconst 3, 1) := by decide +kernel
theorem d78_43 : decode prog_2_method_18_code 43 = .ok (.if_icmp .ne 27, 3) := by decide +kernel
theorem d78_46 : decode prog_2_method_18_code 46 = .ok (.aload_n 0, 1) := by decide +kernel
theorem d78_47 : decode prog_2_method_18_code 47 = .ok (.iload_n 1, 1) := by decide +kernel
theorem d78_48 : decode prog_2_method_18_code 48 = .ok (.lload_n 3, 1) := by decide +kernel
theorem d78_49 : decode prog_2_method_18_code 49 = .ok (.aload_n 0, 1) := by decide +kernel
theorem d78_50 : decode prog_2_method_18_code 50 = .ok (.invokevirtual 128, 3) := by decide +kernel
theorem d78_53 : decode prog_2_method_18_code 53 = .ok (.invokevirtual 177, 3) := by decide +kernel
theorem k78_177_2 : xCa (xMo 78) 177 2 = some (1, 79, 3) := by decide +kernel
theorem n78_177 : xcn (xMo 78) 177 = some 3 := by decide +kernel
theorem d78_56 : decode prog_2_method_18_code 56 = .ok (.lstore_n 3, 1) := by decide +kernel
theorem d78_57 : decode prog_2_method_18_code 57 = .ok (.aload_n 0, 1) := by decide +kernel
theorem d78_58 : decode prog_2_method_18_code 58 = .ok (.dup, 1) := by decide +kernel
theorem d78_59 : decode prog_2_method_18_code 59 = .ok (.getfield 74, 3) := by decide +kernel
theorem f78_74 : xFd (xMo 78) 74 = some (2, 2) := by decide +kernel
theorem d78_62 : decode prog_2_method_18_code 62 = .ok (.iconst 1, 1) := by decide +kernel
theorem d78_63 : decode prog_2_method_18_code 63 = .ok (.iadd, 1) := by decide +kernel
theorem d78_64 : decode prog_2_method_18_code 64 = .ok (.putfield 74, 3) := by decide +kernel
theorem d78_67 : decode prog_2_method_18_code 67 = .ok (.goto 15, 3) := by decide +kernel
theorem d78_70 : decode prog_2_method_18_code 70 = .ok (.aload_n 0, 1) := by decide +kernel
theorem d78_71 : decode prog_2_method_18_code 71 = .ok (.iload_n 1, 1) := by decide +kernel
theorem d78_72 : decode prog_2_method_18_code 72 = .ok (.lload_n 3, 1) := by decide +kernel
theorem d78_73 : decode prog_2_method_18_code 73 = .ok (.aload_n 0, 1) := by decide +kernel
theorem d78_74 : decode prog_2_method_18_code 74 = .ok (.iload_n 2, 1) := by decide +kernel
theorem d78_75 : decode prog_2_method_18_code 75 = .ok (.invokevirtual 86, 3) := by decide +kernel
theorem k78_86_2 : xCa (xMo 78) 86 2 = some (1, 65, 1) := by decide +kernel
theorem n78_86 : xcn (xMo 78) 86 = some 1 := by decide +kernel
theorem d78_78 : decode prog_2_method_18_code 78 = .ok (.invokevirtual 181, 3) := by decide +kernel
theorem k78_181_2 : xCa (xMo 78) 181 2 = some (1, 80, 3) := by decide +kernel
theorem n78_181 : xcn (xMo 78) 181 = some 3 := by decide +kernel
theorem d78_81 : decode prog_2_method_18_code 81 = .ok (.lstore_n 3, 1) := by decide +kernel
theorem d78_82 : decode prog_2_method_18_code 82 = .ok (.aload_n 0, 1) := by decide +kernel
theorem d78_83 : decode prog_2_method_18_code 83 = .ok (.invokevirtual 102, 3) := by decide +kernel
theorem k78_102_2 : xCa (xMo 78) 102 2 = some (1, 70, 0) := by decide +kernel
theorem n78_102 : xcn (xMo 78) 102 = some 0 := by decide +kernel
theorem d78_86 : decode prog_2_method_18_code 86 = .ok (.bipush 44, 2) := by decide +kernel
theorem d78_88 : decode prog_2_method_18_code 88 = .ok (.if_icmp .ne 7, 3) := by decide +kernel
theorem d78_91 : decode prog_2_method_18_code 91 = .ok (.iconst 1, 1) := by decide +kernel
theorem d78_92 : decode prog_2_method_18_code 92 = .ok (.goto 4, 3) := by decide +kernel
theorem d78_95 : decode prog_2_method_18_code 95 = .ok (.iconst 0, 1) := by decide +kernel
theorem d78_96 : decode prog_2_method_18_code 96 = .ok (.istore 6, 2) := by decide +kernel
theorem d78_98 : decode prog_2_method_18_code 98 = .ok (.aload_n 0, 1) := by decide +kernel
theorem d78_99 : decode prog_2_method_18_code 99 = .ok (.dup, 1) := by decide +kernel
theorem d78_100 : decode prog_2_method_18_code 100 = .ok (.getfield 74, 3) := by decide +kernel
theorem d78_103 : decode prog_2_method_18_code 103 = .ok (.iconst 1, 1) := by decide +kernel
theorem d78_104 : decode prog_2_method_18_code 104 = .ok (.iadd, 1) := by decide +kernel
theorem d78_105 : decode prog_2_method_18_code 105 = .ok (.putfield 74, 3) := by decide +kernel
theorem d78_108 : decode prog_2_method_18_code 108 = .ok (.iload 6, 2) := by decide +kernel
theorem d78_110 : decode prog_2_method_18_code 110 = .ok (.ifCond .ne 6, 3) := by decide +kernel
theorem d78_113 : decode prog_2_method_18_code 113 = .ok (.goto 9, 3) := by decide +kernel
theorem d78_116 : decode prog_2_method_18_code 116 = .ok (.iinc 5 1, 3) := by decide +kernel
theorem d78_119 : decode prog_2_method_18_code 119 = .ok (.goto (-98), 3) := by decide +kernel
theorem d78_122 : decode prog_2_method_18_code 122 = .ok (.aload_n 0, 1) := by decide +kernel
theorem d78_123 : decode prog_2_method_18_code 123 = .ok (.getfield 83, 3) := by decide +kernel
theorem d78_126 : decode prog_2_method_18_code 126 = .ok (.ifCond .eq 5, 3) := by decide +kernel
theorem d78_129 : decode prog_2_method_18_code 129 = .ok (.lconst 0, 1) := by decide +kernel
theorem d78_130 : decode prog_2_method_18_code 130 = .ok (.lreturn, 1) := by decide +kernel
theorem d78_131 : decode prog_2_method_18_code 131 = .ok (.lload_n 3, 1) := by decide +kernel
theorem d78_132 : decode prog_2_method_18_code 132 = .ok (.ldc2_w 175, 3) := by decide +kernel
theorem d78_135 : decode prog_2_method_18_code 135 = .ok (.lcmp, 1) := by decide +kernel
theorem d78_136 : decode prog_2_method_18_code 136 = .ok (.ifCond .ne 11, 3) := by decide +kernel
theorem d78_139 : decode prog_2_method_18_code 139 = .ok (.aload_n 0, 1) := by decide +kernel
theorem d78_140 : decode prog_2_method_18_code 140 = .ok (.iconst 4, 1) := by decide +kernel
theorem d78_141 : decode prog_2_method_18_code 141 = .ok (.invokevirtual 96, 3) := by decide +kernel
theorem k78_96_2 : xCa (xMo 78) 96 2 = some (1, 66, 1) := by decide +kernel
theorem n78_96 : xcn (xMo 78) 96 = some 1 := by decide +kernel
theorem d78_144 : decode prog_2_method_18_code 144 = .ok (.goto 4, 3) := by decide +kernel
theorem d78_147 : decode prog_2_method_18_code 147 = .ok (.lload_n 3, 1) := by decide +kernel
theorem d78_148 : decode prog_2_method_18_code 148 = .ok (.lreturn, 1) := by decide +kernel
set_option maxRecDepth 100000 in
theorem q79 : xMc 79 = prog_2_method_19_code := rfl
theorem m79 : xMl 79 = 15 ∧ xMret 79 = (some FieldType.long) ∧ xMh 79 = [] := by decide +kernel
theorem e79 {X : xX} {d : Nat} {w : xH} {Q : xO → xH → Prop} (a : Nat) (x0 : Int32) (x1 : Int64) (x2 : Int32) : Cw X d 79 [.ref a, .int x0, .long x1, .int x2] w Q = Wx X d 79 0 [some (.ref a), some (.int x0), some (.long x1), none, some (.int x2), none, none, none, none, none, none, none, none, none, none] [] w Q := by
  unfold Cw
  rw [m79.1]
  rfl
theorem d79_0 : decode prog_2_method_19_code 0 = .ok (.iload 4, 2) := by decide +kernel
theorem d79_2 : decode prog_2_method_19_code 2 = .ok (.invokestatic 185, 3) := by decide +kernel
theorem k79_185_99 : xCa (xMo 79) 185 99 = some (0, 173, 1) := by decide +kernel
theorem d79_5 : decode prog_2_method_19_code 5 = .ok (.invokestatic 140, 3) := by decide +kernel
theorem k79_140_99 : xCa (xMo 79) 140 99 = some (0, 172, 1) := by decide +kernel
theorem d79_8 : decode prog_2_method_19_code 8 = .ok (.istore 5, 2) := by decide +kernel
theorem d79_10 : decode prog_2_method_19_code 10 = .ok (.iload 4, 2) := by decide +kernel
theorem d79_12 : decode prog_2_method_19_code 12 = .ok (.invokestatic 188, 3) := by decide +kernel
theorem k79_188_99 : xCa (xMo 79) 188 99 = some (0, 174, 1) := by decide +kernel
theorem d79_15 : decode prog_2_method_19_code 15 = .ok (.invokestatic 140, 3) := by decide +kernel
theorem d79_18 : decode prog_2_method_19_code 18 = .ok (.istore 6, 2) := by decide +kernel
theorem d79_20 : decode prog_2_method_19_code 20 = .ok (.iload 5, 2) := by decide +kernel
theorem d79_22 : decode prog_2_method_19_code 22 = .ok (.bipush 10, 2) := by decide +kernel
theorem d79_24 : decode prog_2_method_19_code 24 = .ok (.idiv, 1) := by decide +kernel
theorem d79_25 : decode prog_2_method_19_code 25 = .ok (.iload 6, 2) := by decide +kernel
theorem d79_27 : decode prog_2_method_19_code 27 = .ok (.bipush 10, 2) := by decide +kernel
theorem d79_29 : decode prog_2_method_19_code 29 = .ok (.idiv, 1) := by decide +kernel
theorem d79_30 : decode prog_2_method_19_code 30 = .ok (.invokestatic 191, 3) := by decide +kernel
theorem k79_191_99 : xCa (xMo 79) 191 99 = some (0, 410, 2) := by decide +kernel
theorem d79_33 : decode prog_2_method_19_code 33 = .ok (.istore 7, 2) := by decide +kernel
theorem d79_35 : decode prog_2_method_19_code 35 = .ok (.iload 5, 2) := by decide +kernel
theorem d79_37 : decode prog_2_method_19_code 37 = .ok (.bipush 10, 2) := by decide +kernel
theorem d79_39 : decode prog_2_method_19_code 39 = .ok (.irem, 1) := by decide +kernel
theorem d79_40 : decode prog_2_method_19_code 40 = .ok (.iload 6, 2) := by decide +kernel
theorem d79_42 : decode prog_2_method_19_code 42 = .ok (.bipush 10, 2) := by decide +kernel
theorem d79_44 : decode prog_2_method_19_code 44 = .ok (.irem, 1) := by decide +kernel
theorem d79_45 : decode prog_2_method_19_code 45 = .ok (.invokestatic 195, 3) := by decide +kernel
theorem k79_195_99 : xCa (xMo 79) 195 99 = some (0, 409, 2) := by decide +kernel
theorem d79_48 : decode prog_2_method_19_code 48 = .ok (.istore 8, 2) := by decide +kernel
theorem d79_50 : decode prog_2_method_19_code 50 = .ok (.iload 5, 2) := by decide +kernel
theorem d79_52 : decode prog_2_method_19_code 52 = .ok (.bipush 10, 2) := by decide +kernel
theorem d79_54 : decode prog_2_method_19_code 54 = .ok (.irem, 1) := by decide +kernel
theorem d79_55 : decode prog_2_method_19_code 55 = .ok (.iload 6, 2) := by decide +kernel
theorem d79_57 : decode prog_2_method_19_code 57 = .ok (.bipush 10, 2) := by decide +kernel
theorem d79_59 : decode prog_2_method_19_code 59 = .ok (.irem, 1) := by decide +kernel
theorem d79_60 : decode prog_2_method_19_code 60 = .ok (.invokestatic 191, 3) := by decide +kernel
theorem d79_63 : decode prog_2_method_19_code 63 = .ok (.istore 9, 2) := by decide +kernel
theorem d79_65 : decode prog_2_method_19_code 65 = .ok (.lload_n 2, 1) := by decide +kernel
theorem d79_66 : decode prog_2_method_19_code 66 = .ok (.lstore 10, 2) := by decide +kernel
theorem d79_68 : decode prog_2_method_19_code 68 = .ok (.iload 5, 2) := by decide +kernel
theorem d79_70 : decode prog_2_method_19_code 70 = .ok (.bipush 10, 2) := by decide +kernel
theorem d79_72 : decode prog_2_method_19_code 72 = .ok (.idiv, 1) := by decide +kernel
theorem d79_73 : decode prog_2_method_19_code 73 = .ok (.iload 6, 2) := by decide +kernel
theorem d79_75 : decode prog_2_method_19_code 75 = .ok (.bipush 10, 2) := by decide +kernel
theorem d79_77 : decode prog_2_method_19_code 77 = .ok (.idiv, 1) := by decide +kernel
theorem d79_78 : decode prog_2_method_19_code 78 = .ok (.invokestatic 195, 3) := by decide +kernel
theorem d79_81 : decode prog_2_method_19_code 81 = .ok (.istore 12, 2) := by decide +kernel
theorem d79_83 : decode prog_2_method_19_code 83 = .ok (.iload 12, 2) := by decide +kernel
theorem d79_85 : decode prog_2_method_19_code 85 = .ok (.iload 7, 2) := by decide +kernel
theorem d79_87 : decode prog_2_method_19_code 87 = .ok (.if_icmp .gt 80, 3) := by decide +kernel
theorem d79_90 : decode prog_2_method_19_code 90 = .ok (.iload 8, 2) := by decide +kernel
theorem d79_92 : decode prog_2_method_19_code 92 = .ok (.istore 13, 2) := by decide +kernel
theorem d79_94 : decode prog_2_method_19_code 94 = .ok (.iload 13, 2) := by decide +kernel
theorem d79_96 : decode prog_2_method_19_code 96 = .ok (.iload 9, 2) := by decide +kernel
theorem d79_98 : decode prog_2_method_19_code 98 = .ok (.if_icmp .gt 63, 3) := by decide +kernel
theorem d79_101 : decode prog_2_method_19_code 101 = .ok (.aload_n 0, 1) := by decide +kernel
theorem d79_102 : decode prog_2_method_19_code 102 = .ok (.getfield 83, 3) := by decide +kernel
theorem f79_83 : xFd (xMo 79) 83 = some (2, 4) := by decide +kernel
theorem d79_105 : decode prog_2_method_19_code 105 = .ok (.ifCond .ne 56, 3) := by decide +kernel
theorem d79_108 : decode prog_2_method_19_code 108 = .ok (.bipush 10, 2) := by decide +kernel
theorem d79_110 : decode prog_2_method_19_code 110 = .ok (.iload 12, 2) := by decide +kernel
theorem d79_112 : decode prog_2_method_19_code 112 = .ok (.imul, 1) := by decide +kernel
theorem d79_113 : decode prog_2_method_19_code 113 = .ok (.iload 13, 2) := by decide +kernel
theorem d79_115 : decode prog_2_method_19_code 115 = .ok (.iadd, 1) := by decide +kernel
theorem d79_116 : decode prog_2_method_19_code 116 = .ok (.istore 14, 2) := by decide +kernel
theorem d79_118 : decode prog_2_method_19_code 118 = .ok (.aload_n 0, 1) := by decide +kernel
theorem d79_119 : decode prog_2_method_19_code 119 = .ok (.getfield 14, 3) := by decide +kernel
theorem f79_14 : xFd (xMo 79) 14 = some (2, 0) := by decide +kernel
theorem d79_122 : decode prog_2_method_19_code 122 = .ok (.getfield 46, 3) := by decide +kernel
theorem f79_46 : xFd (xMo 79) 46 = some (9, 0) := by decide +kernel
theorem d79_125 : decode prog_2_method_19_code 125 = .ok (.iload 14, 2) := by decide +kernel
theorem d79_127 : decode prog_2_method_19_code 127 = .ok (.iaload, 1) := by decide +kernel
theorem d79_128 : decode prog_2_method_19_code 128 = .ok (.ifCond .eq 27, 3) := by decide +kernel
theorem d79_131 : decode prog_2_method_19_code 131 = .ok (.aload_n 0, 1) := by decide +kernel
theorem d79_132 : decode prog_2_method_19_code 132 = .ok (.iload_n 1, 1) := by decide +kernel
theorem d79_133 : decode prog_2_method_19_code 133 = .ok (.lload 10, 2) := by decide +kernel
theorem d79_135 : decode prog_2_method_19_code 135 = .ok (.iload_n 1, 1) := by decide +kernel
theorem d79_136 : decode prog_2_method_19_code 136 = .ok (.iconst 3, 1) := by decide +kernel
theorem d79_137 : decode prog_2_method_19_code 137 = .ok (.if_icmp .ne 7, 3) := by decide +kernel
theorem d79_140 : decode prog_2_method_19_code 140 = .ok (.lconst 1, 1) := by decide +kernel
theorem d79_141 : decode prog_2_method_19_code 141 = .ok (.goto 9, 3) := by decide +kernel
theorem d79_144 : decode prog_2_method_19_code 144 = .ok (.aload_n 0, 1) := by decide +kernel
theorem d79_145 : decode prog_2_method_19_code 145 = .ok (.iload 14, 2) := by decide +kernel
theorem d79_147 : decode prog_2_method_19_code 147 = .ok (.invokevirtual 143, 3) := by decide +kernel
theorem k79_143_2 : xCa (xMo 79) 143 2 = some (1, 73, 1) := by decide +kernel
theorem n79_143 : xcn (xMo 79) 143 = some 1 := by decide +kernel
theorem d79_150 : decode prog_2_method_19_code 150 = .ok (.invokevirtual 181, 3) := by decide +kernel
theorem k79_181_2 : xCa (xMo 79) 181 2 = some (1, 80, 3) := by decide +kernel
theorem n79_181 : xcn (xMo 79) 181 = some 3 := by decide +kernel
theorem d79_153 : decode prog_2_method_19_code 153 = .ok (.lstore 10, 2) := by decide +kernel
theorem d79_155 : decode prog_2_method_19_code 155 = .ok (.iinc 13 1, 3) := by decide +kernel
theorem d79_158 : decode prog_2_method_19_code 158 = .ok (.goto (-64), 3) := by decide +kernel
theorem d79_161 : decode prog_2_method_19_code 161 = .ok (.iinc 12 1, 3) := by decide +kernel
theorem d79_164 : decode prog_2_method_19_code 164 = .ok (.goto (-81), 3) := by decide +kernel
theorem d79_167 : decode prog_2_method_19_code 167 = .ok (.lload 10, 2) := by decide +kernel
theorem d79_169 : decode prog_2_method_19_code 169 = .ok (.lreturn, 1) := by decide +kernel
set_option maxRecDepth 100000 in
theorem q80 : xMc 80 = prog_2_method_20_code := rfl
theorem m80 : xMl 80 = 6 ∧ xMret 80 = (some FieldType.long) ∧ xMh 80 = [] := by decide +kernel
theorem e80 {X : xX} {d : Nat} {w : xH} {Q : xO → xH → Prop} (a : Nat) (x0 : Int32) (x1 : Int64) (x2 : Int64) : Cw X d 80 [.ref a, .int x0, .long x1, .long x2] w Q = Wx X d 80 0 [some (.ref a), some (.int x0), some (.long x1), none, some (.long x2), none] [] w Q := by
  unfold Cw
  rw [m80.1]
  rfl
theorem d80_0 : decode prog_2_method_20_code 0 = .ok (.aload_n 0, 1) := by decide +kernel
theorem d80_1 : decode prog_2_method_20_code 1 = .ok (.getfield 83, 3) := by decide +kernel
theorem f80_83 : xFd (xMo 80) 83 = some (2, 4) := by decide +kernel
theorem d80_4 : decode prog_2_method_20_code 4 = .ok (.ifCond .eq 5, 3) := by decide +kernel
theorem d80_7 : decode prog_2_method_20_code 7 = .ok (.lload_n 2, 1) := by decide +kernel
theorem d80_8 : decode prog_2_method_20_code 8 = .ok (.lreturn, 1) := by decide +kernel
theorem d80_9 : decode prog_2_method_20_code 9 = .ok (.iload_n 1, 1) := by decide +kernel
theorem d80_10 : decode prog_2_method_20_code 10 = .ok (.tableswitch 71 0 2 #[26, 35, 57], 26) := by decide +kernel
theorem d80_36 : decode prog_2_method_20_code 36 = .ok (.aload_n 0, 1) := by decide +kernel
theorem d80_37 : decode prog_2_method_20_code 37 = .ok (.lload_n 2, 1) := by decide +kernel
theorem d80_38 : decode prog_2_method_20_code 38 = .ok (.lload 4, 2) := by decide +kernel
theorem d80_40 : decode prog_2_method_20_code 40 = .ok (.ladd, 1) := by decide +kernel
theorem d80_41 : decode prog_2_method_20_code 41 = .ok (.invokevirtual 109, 3) := by decide +kernel
theorem k80_109_2 : xCa (xMo 80) 109 2 = some (1, 81, 1) := by decide +kernel
theorem n80_109 : xcn (xMo 80) 109 = some 1 := by decide +kernel
theorem d80_44 : decode prog_2_method_20_code 44 = .ok (.lreturn, 1) := by decide +kernel
theorem d80_45 : decode prog_2_method_20_code 45 = .ok (.lload_n 2, 1) := by decide +kernel
theorem d80_46 : decode prog_2_method_20_code 46 = .ok (.ldc2_w 175, 3) := by decide +kernel
theorem d80_49 : decode prog_2_method_20_code 49 = .ok (.lcmp, 1) := by decide +kernel
theorem d80_50 : decode prog_2_method_20_code 50 = .ok (.ifCond .eq 10, 3) := by decide +kernel
theorem d80_53 : decode prog_2_method_20_code 53 = .ok (.lload 4, 2) := by decide +kernel
theorem d80_55 : decode prog_2_method_20_code 55 = .ok (.lload_n 2, 1) := by decide +kernel
theorem d80_56 : decode prog_2_method_20_code 56 = .ok (.lcmp, 1) := by decide +kernel
theorem d80_57 : decode prog_2_method_20_code 57 = .ok (.ifCond .ge 8, 3) := by decide +kernel
theorem d80_60 : decode prog_2_method_20_code 60 = .ok (.lload 4, 2) := by decide +kernel
theorem d80_62 : decode prog_2_method_20_code 62 = .ok (.goto 4, 3) := by decide +kernel
theorem d80_65 : decode prog_2_method_20_code 65 = .ok (.lload_n 2, 1) := by decide +kernel
theorem d80_66 : decode prog_2_method_20_code 66 = .ok (.lreturn, 1) := by decide +kernel
theorem d80_67 : decode prog_2_method_20_code 67 = .ok (.lload 4, 2) := by decide +kernel
theorem d80_69 : decode prog_2_method_20_code 69 = .ok (.lload_n 2, 1) := by decide +kernel
theorem d80_70 : decode prog_2_method_20_code 70 = .ok (.lcmp, 1) := by decide +kernel
theorem d80_71 : decode prog_2_method_20_code 71 = .ok (.ifCond .le 8, 3) := by decide +kernel
theorem d80_74 : decode prog_2_method_20_code 74 = .ok (.lload 4, 2) := by decide +kernel
theorem d80_76 : decode prog_2_method_20_code 76 = .ok (.goto 4, 3) := by decide +kernel
theorem d80_79 : decode prog_2_method_20_code 79 = .ok (.lload_n 2, 1) := by decide +kernel
theorem d80_80 : decode prog_2_method_20_code 80 = .ok (.lreturn, 1) := by decide +kernel
theorem d80_81 : decode prog_2_method_20_code 81 = .ok (.lload_n 2, 1) := by decide +kernel
theorem d80_82 : decode prog_2_method_20_code 82 = .ok (.lconst 1, 1) := by decide +kernel
theorem d80_83 : decode prog_2_method_20_code 83 = .ok (.ladd, 1) := by decide +kernel
theorem d80_84 : decode prog_2_method_20_code 84 = .ok (.lreturn, 1) := by decide +kernel
set_option maxRecDepth 100000 in
theorem q81 : xMc 81 = prog_2_method_23_code := rfl
theorem m81 : xMl 81 = 3 ∧ xMret 81 = (some FieldType.long) ∧ xMh 81 = [] := by decide +kernel
theorem e81 {X : xX} {d : Nat} {w : xH} {Q : xO → xH → Prop} (a : Nat) (x0 : Int64) : Cw X d 81 [.ref a, .long x0] w Q = Wx X d 81 0 [some (.ref a), some (.long x0), none] [] w Q := by
  unfold Cw
  rw [m81.1]
  rfl
theorem d81_0 : decode prog_2_method_23_code 0 = .ok (.aload_n 0, 1) := by decide +kernel
theorem d81_1 : decode prog_2_method_23_code 1 = .ok (.getfield 83, 3) := by decide +kernel
theorem f81_83 : xFd (xMo 81) 83 = some (2, 4) := by decide +kernel
theorem d81_4 : decode prog_2_method_23_code 4 = .ok (.ifCond .eq 5, 3) := by decide +kernel
theorem d81_7 : decode prog_2_method_23_code 7 = .ok (.lconst 0, 1) := by decide +kernel
theorem d81_8 : decode prog_2_method_23_code 8 = .ok (.lreturn, 1) := by decide +kernel
theorem d81_9 : decode prog_2_method_23_code 9 = .ok (.lload_n 1, 1) := by decide +kernel
theorem d81_10 : decode prog_2_method_23_code 10 = .ok (.ldc2_w 201, 3) := by decide +kernel
theorem d81_13 : decode prog_2_method_23_code 13 = .ok (.lcmp, 1) := by decide +kernel
theorem d81_14 : decode prog_2_method_23_code 14 = .ok (.ifCond .lt 11, 3) := by decide +kernel
theorem d81_17 : decode prog_2_method_23_code 17 = .ok (.lload_n 1, 1) := by decide +kernel
theorem d81_18 : decode prog_2_method_23_code 18 = .ok (.ldc2_w 203, 3) := by decide +kernel
theorem d81_21 : decode prog_2_method_23_code 21 = .ok (.lcmp, 1) := by decide +kernel
theorem d81_22 : decode prog_2_method_23_code 22 = .ok (.ifCond .le 10, 3) := by decide +kernel
theorem d81_25 : decode prog_2_method_23_code 25 = .ok (.aload_n 0, 1) := by decide +kernel
theorem d81_26 : decode prog_2_method_23_code 26 = .ok (.iconst 2, 1) := by decide +kernel
theorem d81_27 : decode prog_2_method_23_code 27 = .ok (.putfield 83, 3) := by decide +kernel
theorem d81_30 : decode prog_2_method_23_code 30 = .ok (.lconst 0, 1) := by decide +kernel
theorem d81_31 : decode prog_2_method_23_code 31 = .ok (.lreturn, 1) := by decide +kernel
theorem d81_32 : decode prog_2_method_23_code 32 = .ok (.lload_n 1, 1) := by decide +kernel
theorem d81_33 : decode prog_2_method_23_code 33 = .ok (.lreturn, 1) := by decide +kernel
set_option maxRecDepth 100000 in
theorem q82 : xMc 82 = prog_2_method_10_code := rfl
theorem m82 : xMl 82 = 5 ∧ xMret 82 = (some FieldType.long) ∧ xMh 82 = [] := by decide +kernel
theorem e82 {X : xX} {d : Nat} {w : xH} {Q : xO → xH → Prop} (a : Nat) (x0 : Int64) (x1 : Int64) : Cw X d 82 [.ref a, .long x0, .long x1] w Q = Wx X d 82 0 [some (.ref a), some (.long x0), none, some (.long x1), none] [] w Q := by
  unfold Cw
  rw [m82.1]
  rfl
theorem d82_0 : decode prog_2_method_10_code 0 = .ok (.lload_n 3, 1) := by decide +kernel
theorem d82_1 : decode prog_2_method_10_code 1 = .ok (.lconst 0, 1) := by decide +kernel
theorem d82_2 : decode prog_2_method_10_code 2 = .ok (.lcmp, 1) := by decide +kernel
theorem d82_3 : decode prog_2_method_10_code 3 = .ok (.ifCond .ne 9, 3) := by decide +kernel
theorem d82_6 : decode prog_2_method_10_code 6 = .ok (.aload_n 0, 1) := by decide +kernel
theorem d82_7 : decode prog_2_method_10_code 7 = .ok (.iconst 1, 1) := by decide +kernel
theorem d82_8 : decode prog_2_method_10_code 8 = .ok (.invokevirtual 96, 3) := by decide +kernel
theorem k82_96_2 : xCa (xMo 82) 96 2 = some (1, 66, 1) := by decide +kernel
theorem n82_96 : xcn (xMo 82) 96 = some 1 := by decide +kernel
theorem d82_11 : decode prog_2_method_10_code 11 = .ok (.lreturn, 1) := by decide +kernel
theorem d82_12 : decode prog_2_method_10_code 12 = .ok (.lload_n 1, 1) := by decide +kernel
theorem d82_13 : decode prog_2_method_10_code 13 = .ok (.lload_n 3, 1) := by decide +kernel
theorem d82_14 : decode prog_2_method_10_code 14 = .ok (.invokestatic 120, 3) := by decide +kernel
theorem k82_120_99 : xCa (xMo 82) 120 99 = some (0, 412, 2) := by decide +kernel
theorem d82_17 : decode prog_2_method_10_code 17 = .ok (.lreturn, 1) := by decide +kernel
set_option maxRecDepth 100000 in
theorem q83 : xMc 83 = prog_2_method_3_code := rfl
theorem m83 : xMl 83 = 2 ∧ xMret 83 = (some FieldType.int) ∧ xMh 83 = [] := by decide +kernel
theorem e83 {X : xX} {d : Nat} {w : xH} {Q : xO → xH → Prop} (a : Nat) : Cw X d 83 [.ref a] w Q = Wx X d 83 0 [some (.ref a), none] [] w Q := by
  unfold Cw
  rw [m83.1]
  rfl
theorem d83_0 : decode prog_2_method_3_code 0 = .ok (.aload_n 0, 1) := by decide +kernel
theorem d83_1 : decode prog_2_method_3_code 1 = .ok (.getfield 21, 3) := by decide +kernel
theorem f83_21 : xFd (xMo 83) 21 = some (2, 1) := by decide +kernel
theorem d83_4 : decode prog_2_method_3_code 4 = .ok (.aload_n 0, 1) := by decide +kernel
theorem d83_5 : decode prog_2_method_3_code 5 = .ok (.getfield 14, 3) := by decide +kernel
theorem f83_14 : xFd (xMo 83) 14 = some (2, 0) := by decide +kernel
theorem d83_8 : decode prog_2_method_3_code 8 = .ok (.invokevirtual 29, 3) := by decide +kernel
theorem k83_29_6 : xCa (xMo 83) 29 6 = some (1, 100, 1) := by decide +kernel
theorem n83_29 : xcn (xMo 83) 29 = some 1 := by decide +kernel
theorem d83_11 : decode prog_2_method_3_code 11 = .ok (.aload_n 0, 1) := by decide +kernel
theorem d83_12 : decode prog_2_method_3_code 12 = .ok (.getfield 21, 3) := by decide +kernel
theorem d83_15 : decode prog_2_method_3_code 15 = .ok (.invokevirtual 32, 3) := by decide +kernel
theorem k83_32_6 : xCa (xMo 83) 32 6 = some (1, 112, 0) := by decide +kernel
theorem n83_32 : xcn (xMo 83) 32 = some 0 := by decide +kernel
theorem d83_18 : decode prog_2_method_3_code 18 = .ok (.aload_n 0, 1) := by decide +kernel
theorem d83_19 : decode prog_2_method_3_code 19 = .ok (.invokevirtual 35, 3) := by decide +kernel
theorem k83_35_2 : xCa (xMo 83) 35 2 = some (1, 64, 0) := by decide +kernel
theorem n83_35 : xcn (xMo 83) 35 = some 0 := by decide +kernel
theorem d83_22 : decode prog_2_method_3_code 22 = .ok (.istore_n 1, 1) := by decide +kernel
theorem d83_23 : decode prog_2_method_3_code 23 = .ok (.aload_n 0, 1) := by decide +kernel
theorem d83_24 : decode prog_2_method_3_code 24 = .ok (.getfield 14, 3) := by decide +kernel
theorem d83_27 : decode prog_2_method_3_code 27 = .ok (.iload_n 1, 1) := by decide +kernel
theorem d83_28 : decode prog_2_method_3_code 28 = .ok (.invokevirtual 39, 3) := by decide +kernel
theorem k83_39_9 : xCa (xMo 83) 39 9 = some (1, 158, 1) := by decide +kernel
theorem n83_39 : xcn (xMo 83) 39 = some 1 := by decide +kernel
theorem d83_31 : decode prog_2_method_3_code 31 = .ok (.iload_n 1, 1) := by decide +kernel
theorem d83_32 : decode prog_2_method_3_code 32 = .ok (.ireturn, 1) := by decide +kernel
set_option maxRecDepth 100000 in
theorem q84 : xMc 84 = prog_2_method_2_code := rfl
theorem m84 : xMl 84 = 2 ∧ xMret 84 = none ∧ xMh 84 = [] := by decide +kernel
theorem e84 {X : xX} {d : Nat} {w : xH} {Q : xO → xH → Prop} (a : Nat) (x0 : Nat) : Cw X d 84 [.ref a, .ref x0] w Q = Wx X d 84 0 [some (.ref a), some (.ref x0)] [] w Q := by
  unfold Cw
  rw [m84.1]
  rfl
theorem d84_0 : decode prog_2_method_2_code 0 = .ok (.aload_n 0, 1) := by decide +kernel
theorem d84_1 : decode prog_2_method_2_code 1 = .ok (.getfield 14, 3) := by decide +kernel
theorem f84_14 : xFd (xMo 84) 14 = some (2, 0) := by decide +kernel
theorem d84_4 : decode prog_2_method_2_code 4 = .ok (.aload_n 1, 1) := by decide +kernel
theorem d84_5 : decode prog_2_method_2_code 5 = .ok (.invokevirtual 25, 3) := by decide +kernel
theorem k84_25_9 : xCa (xMo 84) 25 9 = some (1, 149, 1) := by decide +kernel
theorem n84_25 : xcn (xMo 84) 25 = some 1 := by decide +kernel
theorem d84_8 : decode prog_2_method_2_code 8 = .ok (.aload_n 0, 1) := by decide +kernel
theorem d84_9 : decode prog_2_method_2_code 9 = .ok (.getfield 21, 3) := by decide +kernel
theorem f84_21 : xFd (xMo 84) 21 = some (2, 1) := by decide +kernel
theorem d84_12 : decode prog_2_method_2_code 12 = .ok (.aload_n 0, 1) := by decide +kernel
theorem d84_13 : decode prog_2_method_2_code 13 = .ok (.getfield 14, 3) := by decide +kernel
theorem d84_16 : decode prog_2_method_2_code 16 = .ok (.invokevirtual 29, 3) := by decide +kernel
theorem k84_29_6 : xCa (xMo 84) 29 6 = some (1, 100, 1) := by decide +kernel
theorem n84_29 : xcn (xMo 84) 29 = some 1 := by decide +kernel
theorem d84_19 : decode prog_2_method_2_code 19 = .ok (.return_, 1) := by decide +kernel
set_option maxRecDepth 100000 in
theorem q85 : xMc 85 = prog_2_method_5_code := rfl
theorem m85 : xMl 85 = 3 ∧ xMret 85 = none ∧ xMh 85 = [] := by decide +kernel
theorem e85 {X : xX} {d : Nat} {w : xH} {Q : xO → xH → Prop} (a : Nat) (x0 : Int32) : Cw X d 85 [.ref a, .int x0] w Q = Wx X d 85 0 [some (.ref a), some (.int x0), none] [] w Q := by
  unfold Cw
  rw [m85.1]
  rfl
theorem d85_0 : decode prog_2_method_5_code 0 = .ok (.iconst 0, 1) := by decide +kernel
theorem d85_1 : decode prog_2_method_5_code 1 = .ok (.istore_n 2, 1) := by decide +kernel
theorem d85_2 : decode prog_2_method_5_code 2 = .ok (.iload_n 2, 1) := by decide +kernel
theorem d85_3 : decode prog_2_method_5_code 3 = .ok (.aload_n 0, 1) := by decide +kernel
theorem d85_4 : decode prog_2_method_5_code 4 = .ok (.getfield 21, 3) := by decide +kernel
theorem f85_21 : xFd (xMo 85) 21 = some (2, 1) := by decide +kernel
theorem d85_7 : decode prog_2_method_5_code 7 = .ok (.getfield 54, 3) := by decide +kernel
theorem f85_54 : xFd (xMo 85) 54 = some (6, 2) := by decide +kernel
theorem d85_10 : decode prog_2_method_5_code 10 = .ok (.if_icmp .ge 27, 3) := by decide +kernel
theorem d85_13 : decode prog_2_method_5_code 13 = .ok (.aload_n 0, 1) := by decide +kernel
theorem d85_14 : decode prog_2_method_5_code 14 = .ok (.getfield 14, 3) := by decide +kernel
theorem f85_14 : xFd (xMo 85) 14 = some (2, 0) := by decide +kernel
theorem d85_17 : decode prog_2_method_5_code 17 = .ok (.aload_n 0, 1) := by decide +kernel
theorem d85_18 : decode prog_2_method_5_code 18 = .ok (.getfield 21, 3) := by decide +kernel
theorem d85_21 : decode prog_2_method_5_code 21 = .ok (.getfield 58, 3) := by decide +kernel
theorem f85_58 : xFd (xMo 85) 58 = some (6, 1) := by decide +kernel
theorem d85_24 : decode prog_2_method_5_code 24 = .ok (.iload_n 2, 1) := by decide +kernel
theorem d85_25 : decode prog_2_method_5_code 25 = .ok (.iaload, 1) := by decide +kernel
theorem d85_26 : decode prog_2_method_5_code 26 = .ok (.iconst 0, 1) := by decide +kernel
theorem d85_27 : decode prog_2_method_5_code 27 = .ok (.iconst 0, 1) := by decide +kernel
theorem d85_28 : decode prog_2_method_5_code 28 = .ok (.invokevirtual 61, 3) := by decide +kernel
theorem k85_61_9 : xCa (xMo 85) 61 9 = some (1, 157, 3) := by decide +kernel
theorem n85_61 : xcn (xMo 85) 61 = some 3 := by decide +kernel
theorem d85_31 : decode prog_2_method_5_code 31 = .ok (.iinc 2 1, 3) := by decide +kernel
theorem d85_34 : decode prog_2_method_5_code 34 = .ok (.goto (-32), 3) := by decide +kernel
theorem d85_37 : decode prog_2_method_5_code 37 = .ok (.aload_n 0, 1) := by decide +kernel
theorem d85_38 : decode prog_2_method_5_code 38 = .ok (.getfield 21, 3) := by decide +kernel
theorem d85_41 : decode prog_2_method_5_code 41 = .ok (.iload_n 1, 1) := by decide +kernel
theorem d85_42 : decode prog_2_method_5_code 42 = .ok (.invokevirtual 65, 3) := by decide +kernel
theorem k85_65_6 : xCa (xMo 85) 65 6 = some (1, 113, 1) := by decide +kernel
theorem n85_65 : xcn (xMo 85) 65 = some 1 := by decide +kernel
theorem d85_45 : decode prog_2_method_5_code 45 = .ok (.aload_n 0, 1) := by decide +kernel
theorem d85_46 : decode prog_2_method_5_code 46 = .ok (.invokevirtual 35, 3) := by decide +kernel
theorem k85_35_2 : xCa (xMo 85) 35 2 = some (1, 64, 0) := by decide +kernel
theorem n85_35 : xcn (xMo 85) 35 = some 0 := by decide +kernel
theorem d85_49 : decode prog_2_method_5_code 49 = .ok (.pop, 1) := by decide +kernel
theorem d85_50 : decode prog_2_method_5_code 50 = .ok (.return_, 1) := by decide +kernel
set_option maxRecDepth 100000 in
theorem q99 : xMc 99 = prog_6_method_1_code := rfl
theorem m99 : xMl 99 = 2 ∧ xMret 99 = none ∧ xMh 99 = [] := by decide +kernel
theorem e99 {X : xX} {d : Nat} {w : xH} {Q : xO → xH → Prop} (a : Nat) : Cw X d 99 [.ref a] w Q = Wx X d 99 0 [some (.ref a), none] [] w Q := by
  unfold Cw
  rw [m99.1]
  rfl
theorem d99_0 : decode prog_6_method_1_code 0 = .ok (.aload_n 0, 1) := by decide +kernel
theorem d99_1 : decode prog_6_method_1_code 1 = .ok (.invokespecial 3, 3) := by decide +kernel
theorem d99_4 : decode prog_6_method_1_code 4 = .ok (.aload_n 0, 1) := by decide +kernel
theorem d99_5 : decode prog_6_method_1_code 5 = .ok (.sipush 800, 3) := by decide +kernel
theorem d99_8 : decode prog_6_method_1_code 8 = .ok (.newarray .long, 2) := by decide +kernel
theorem d99_10 : decode prog_6_method_1_code 10 = .ok (.putfield 11, 3) := by decide +kernel
theorem f99_11 : xFd (xMo 99) 11 = some (6, 0) := by decide +kernel
theorem d99_13 : decode prog_6_method_1_code 13 = .ok (.aload_n 0, 1) := by decide +kernel
theorem d99_14 : decode prog_6_method_1_code 14 = .ok (.sipush 200, 3) := by decide +kernel
theorem d99_17 : decode prog_6_method_1_code 17 = .ok (.newarray .int, 2) := by decide +kernel
theorem d99_19 : decode prog_6_method_1_code 19 = .ok (.putfield 15, 3) := by decide +kernel
theorem f99_15 : xFd (xMo 99) 15 = some (6, 1) := by decide +kernel
theorem d99_22 : decode prog_6_method_1_code 22 = .ok (.aload_n 0, 1) := by decide +kernel
theorem d99_23 : decode prog_6_method_1_code 23 = .ok (.sipush 200, 3) := by decide +kernel
theorem d99_26 : decode prog_6_method_1_code 26 = .ok (.newarray .int, 2) := by decide +kernel
theorem d99_28 : decode prog_6_method_1_code 28 = .ok (.putfield 19, 3) := by decide +kernel
theorem f99_19 : xFd (xMo 99) 19 = some (6, 3) := by decide +kernel
theorem d99_31 : decode prog_6_method_1_code 31 = .ok (.aload_n 0, 1) := by decide +kernel
theorem d99_32 : decode prog_6_method_1_code 32 = .ok (.sipush 200, 3) := by decide +kernel
theorem d99_35 : decode prog_6_method_1_code 35 = .ok (.newarray .int, 2) := by decide +kernel
theorem d99_37 : decode prog_6_method_1_code 37 = .ok (.putfield 22, 3) := by decide +kernel
theorem f99_22 : xFd (xMo 99) 22 = some (6, 5) := by decide +kernel
theorem d99_40 : decode prog_6_method_1_code 40 = .ok (.aload_n 0, 1) := by decide +kernel
theorem d99_41 : decode prog_6_method_1_code 41 = .ok (.sipush 200, 3) := by decide +kernel
theorem d99_44 : decode prog_6_method_1_code 44 = .ok (.newarray .int, 2) := by decide +kernel
theorem d99_46 : decode prog_6_method_1_code 46 = .ok (.putfield 25, 3) := by decide +kernel
theorem f99_25 : xFd (xMo 99) 25 = some (6, 6) := by decide +kernel
theorem d99_49 : decode prog_6_method_1_code 49 = .ok (.aload_n 0, 1) := by decide +kernel
theorem d99_50 : decode prog_6_method_1_code 50 = .ok (.sipush 200, 3) := by decide +kernel
theorem d99_53 : decode prog_6_method_1_code 53 = .ok (.newarray .boolean, 2) := by decide +kernel
theorem d99_55 : decode prog_6_method_1_code 55 = .ok (.putfield 28, 3) := by decide +kernel
theorem f99_28 : xFd (xMo 99) 28 = some (6, 7) := by decide +kernel
theorem d99_58 : decode prog_6_method_1_code 58 = .ok (.aload_n 0, 1) := by decide +kernel
theorem d99_59 : decode prog_6_method_1_code 59 = .ok (.sipush 200, 3) := by decide +kernel
theorem d99_62 : decode prog_6_method_1_code 62 = .ok (.newarray .int, 2) := by decide +kernel
theorem d99_64 : decode prog_6_method_1_code 64 = .ok (.putfield 32, 3) := by decide +kernel
theorem f99_32 : xFd (xMo 99) 32 = some (6, 8) := by decide +kernel
theorem d99_67 : decode prog_6_method_1_code 67 = .ok (.aload_n 0, 1) := by decide +kernel
theorem d99_68 : decode prog_6_method_1_code 68 = .ok (.sipush 200, 3) := by decide +kernel
theorem d99_71 : decode prog_6_method_1_code 71 = .ok (.newarray .int, 2) := by decide +kernel
theorem d99_73 : decode prog_6_method_1_code 73 = .ok (.putfield 35, 3) := by decide +kernel
theorem f99_35 : xFd (xMo 99) 35 = some (6, 9) := by decide +kernel
theorem d99_76 : decode prog_6_method_1_code 76 = .ok (.iconst 0, 1) := by decide +kernel
theorem d99_77 : decode prog_6_method_1_code 77 = .ok (.istore_n 1, 1) := by decide +kernel
theorem d99_78 : decode prog_6_method_1_code 78 = .ok (.iload_n 1, 1) := by decide +kernel
theorem d99_79 : decode prog_6_method_1_code 79 = .ok (.sipush 200, 3) := by decide +kernel
theorem d99_82 : decode prog_6_method_1_code 82 = .ok (.if_icmp .ge 16, 3) := by decide +kernel
theorem d99_85 : decode prog_6_method_1_code 85 = .ok (.aload_n 0, 1) := by decide +kernel
theorem d99_86 : decode prog_6_method_1_code 86 = .ok (.getfield 22, 3) := by decide +kernel
theorem d99_89 : decode prog_6_method_1_code 89 = .ok (.iload_n 1, 1) := by decide +kernel
theorem d99_90 : decode prog_6_method_1_code 90 = .ok (.iconst (-1), 1) := by decide +kernel
theorem d99_91 : decode prog_6_method_1_code 91 = .ok (.iastore, 1) := by decide +kernel
theorem d99_92 : decode prog_6_method_1_code 92 = .ok (.iinc 1 1, 3) := by decide +kernel
theorem d99_95 : decode prog_6_method_1_code 95 = .ok (.goto (-17), 3) := by decide +kernel
theorem d99_98 : decode prog_6_method_1_code 98 = .ok (.return_, 1) := by decide +kernel
set_option maxRecDepth 100000 in
theorem q100 : xMc 100 = prog_6_method_2_code := rfl
theorem m100 : xMl 100 = 4 ∧ xMret 100 = none ∧ xMh 100 = [] := by decide +kernel
theorem e100 {X : xX} {d : Nat} {w : xH} {Q : xO → xH → Prop} (a : Nat) (x0 : Nat) : Cw X d 100 [.ref a, .ref x0] w Q = Wx X d 100 0 [some (.ref a), some (.ref x0), none, none] [] w Q := by
  unfold Cw
  rw [m100.1]
  rfl
theorem d100_0 : decode prog_6_method_2_code 0 = .ok (.aload_n 0, 1) := by decide +kernel
theorem d100_1 : decode prog_6_method_2_code 1 = .ok (.iconst 0, 1) := by decide +kernel
theorem d100_2 : decode prog_6_method_2_code 2 = .ok (.putfield 38, 3) := by decide +kernel
theorem f100_38 : xFd (xMo 100) 38 = some (6, 2) := by decide +kernel
theorem d100_5 : decode prog_6_method_2_code 5 = .ok (.iconst 0, 1) := by decide +kernel
theorem d100_6 : decode prog_6_method_2_code 6 = .ok (.istore_n 2, 1) := by decide +kernel
theorem d100_7 : decode prog_6_method_2_code 7 = .ok (.iload_n 2, 1) := by decide +kernel
theorem d100_8 : decode prog_6_method_2_code 8 = .ok (.sipush 200, 3) := by decide +kernel
theorem d100_11 : decode prog_6_method_2_code 11 = .ok (.if_icmp .ge 76, 3) := by decide +kernel
theorem d100_14 : decode prog_6_method_2_code 14 = .ok (.aload_n 0, 1) := by decide +kernel
theorem d100_15 : decode prog_6_method_2_code 15 = .ok (.getfield 22, 3) := by decide +kernel
theorem f100_22 : xFd (xMo 100) 22 = some (6, 5) := by decide +kernel
theorem d100_18 : decode prog_6_method_2_code 18 = .ok (.iload_n 2, 1) := by decide +kernel
theorem d100_19 : decode prog_6_method_2_code 19 = .ok (.iconst (-1), 1) := by decide +kernel
theorem d100_20 : decode prog_6_method_2_code 20 = .ok (.iastore, 1) := by decide +kernel
theorem d100_21 : decode prog_6_method_2_code 21 = .ok (.iconst 0, 1) := by decide +kernel
theorem d100_22 : decode prog_6_method_2_code 22 = .ok (.istore_n 3, 1) := by decide +kernel
theorem d100_23 : decode prog_6_method_2_code 23 = .ok (.iload_n 3, 1) := by decide +kernel
theorem d100_24 : decode prog_6_method_2_code 24 = .ok (.iconst 4, 1) := by decide +kernel
theorem d100_25 : decode prog_6_method_2_code 25 = .ok (.if_icmp .ge 20, 3) := by decide +kernel
theorem d100_28 : decode prog_6_method_2_code 28 = .ok (.aload_n 0, 1) := by decide +kernel
theorem d100_29 : decode prog_6_method_2_code 29 = .ok (.getfield 11, 3) := by decide +kernel
theorem f100_11 : xFd (xMo 100) 11 = some (6, 0) := by decide +kernel
theorem d100_32 : decode prog_6_method_2_code 32 = .ok (.iload_n 2, 1) := by decide +kernel
theorem d100_33 : decode prog_6_method_2_code 33 = .ok (.iconst 4, 1) := by decide +kernel
theorem d100_34 : decode prog_6_method_2_code 34 = .ok (.imul, 1) := by decide +kernel
theorem d100_35 : decode prog_6_method_2_code 35 = .ok (.iload_n 3, 1) := by decide +kernel
theorem d100_36 : decode prog_6_method_2_code 36 = .ok (.iadd, 1) := by decide +kernel
theorem d100_37 : decode prog_6_method_2_code 37 = .ok (.lconst 0, 1) := by decide +kernel
theorem d100_38 : decode prog_6_method_2_code 38 = .ok (.lastore, 1) := by decide +kernel
theorem d100_39 : decode prog_6_method_2_code 39 = .ok (.iinc 3 1, 3) := by decide +kernel
theorem d100_42 : decode prog_6_method_2_code 42 = .ok (.goto (-19), 3) := by decide +kernel
theorem d100_45 : decode prog_6_method_2_code 45 = .ok (.aload_n 1, 1) := by decide +kernel
theorem d100_46 : decode prog_6_method_2_code 46 = .ok (.getfield 42, 3) := by decide +kernel
theorem f100_42 : xFd (xMo 100) 42 = some (9, 0) := by decide +kernel
theorem d100_49 : decode prog_6_method_2_code 49 = .ok (.iload_n 2, 1) := by decide +kernel
theorem d100_50 : decode prog_6_method_2_code 50 = .ok (.iaload, 1) := by decide +kernel
theorem d100_51 : decode prog_6_method_2_code 51 = .ok (.iconst 2, 1) := by decide +kernel
theorem d100_52 : decode prog_6_method_2_code 52 = .ok (.if_icmp .ne 29, 3) := by decide +kernel
theorem d100_55 : decode prog_6_method_2_code 55 = .ok (.aload_n 0, 1) := by decide +kernel
theorem d100_56 : decode prog_6_method_2_code 56 = .ok (.getfield 15, 3) := by decide +kernel
theorem f100_15 : xFd (xMo 100) 15 = some (6, 1) := by decide +kernel
theorem d100_59 : decode prog_6_method_2_code 59 = .ok (.aload_n 0, 1) := by decide +kernel
theorem d100_60 : decode prog_6_method_2_code 60 = .ok (.getfield 38, 3) := by decide +kernel
theorem d100_63 : decode prog_6_method_2_code 63 = .ok (.iload_n 2, 1) := by decide +kernel
theorem d100_64 : decode prog_6_method_2_code 64 = .ok (.iastore, 1) := by decide +kernel
theorem d100_65 : decode prog_6_method_2_code 65 = .ok (.aload_n 0, 1) := by decide +kernel
theorem d100_66 : decode prog_6_method_2_code 66 = .ok (.dup, 1) := by decide +kernel
theorem d100_67 : decode prog_6_method_2_code 67 = .ok (.getfield 38, 3) := by decide +kernel
theorem d100_70 : decode prog_6_method_2_code 70 = .ok (.iconst 1, 1) := by decide +kernel
theorem d100_71 : decode prog_6_method_2_code 71 = .ok (.iadd, 1) := by decide +kernel
theorem d100_72 : decode prog_6_method_2_code 72 = .ok (.putfield 38, 3) := by decide +kernel
theorem d100_75 : decode prog_6_method_2_code 75 = .ok (.aload_n 0, 1) := by decide +kernel
theorem d100_76 : decode prog_6_method_2_code 76 = .ok (.iload_n 2, 1) := by decide +kernel
theorem d100_77 : decode prog_6_method_2_code 77 = .ok (.aload_n 1, 1) := by decide +kernel
theorem d100_78 : decode prog_6_method_2_code 78 = .ok (.invokevirtual 47, 3) := by decide +kernel
theorem k100_47_6 : xCa (xMo 100) 47 6 = some (1, 101, 2) := by decide +kernel
theorem n100_47 : xcn (xMo 100) 47 = some 2 := by decide +kernel
theorem d100_81 : decode prog_6_method_2_code 81 = .ok (.iinc 2 1, 3) := by decide +kernel
theorem d100_84 : decode prog_6_method_2_code 84 = .ok (.goto (-77), 3) := by decide +kernel
theorem d100_87 : decode prog_6_method_2_code 87 = .ok (.aload_n 0, 1) := by decide +kernel
theorem d100_88 : decode prog_6_method_2_code 88 = .ok (.invokevirtual 51, 3) := by decide +kernel
theorem k100_51_6 : xCa (xMo 100) 51 6 = some (1, 104, 0) := by decide +kernel
theorem n100_51 : xcn (xMo 100) 51 = some 0 := by decide +kernel
theorem d100_91 : decode prog_6_method_2_code 91 = .ok (.return_, 1) := by decide +kernel
set_option maxRecDepth 100000 in
theorem q101 : xMc 101 = prog_6_method_3_code := rfl
theorem m101 : xMl 101 = 6 ∧ xMret 101 = none ∧ xMh 101 = [] := by decide +kernel
theorem e101 {X : xX} {d : Nat} {w : xH} {Q : xO → xH → Prop} (a : Nat) (x0 : Int32) (x1 : Nat) : Cw X d 101 [.ref a, .int x0, .ref x1] w Q = Wx X d 101 0 [some (.ref a), some (.int x0), some (.ref x1), none, none, none] [] w Q := by
  unfold Cw
  rw [m101.1]
  rfl
theorem d101_0 : decode prog_6_method_3_code 0 = .ok (.iload_n 1, 1) := by decide +kernel
theorem d101_1 : decode prog_6_method_3_code 1 = .ok (.bipush 60, 2) := by decide +kernel
theorem d101_3 : decode prog_6_method_3_code 3 = .ok (.imul, 1) := by decide +kernel
theorem d101_4 : decode prog_6_method_3_code 4 = .ok (.istore_n 3, 1) := by decide +kernel
theorem d101_5 : decode prog_6_method_3_code 5 = .ok (.iconst 0, 1) := by decide +kernel
theorem d101_6 : decode prog_6_method_3_code 6 = .ok (.istore 4, 2) := by decide +kernel
theorem d101_8 : decode prog_6_method_3_code 8 = .ok (.iload 4, 2) := by decide +kernel
theorem d101_10 : decode prog_6_method_3_code 10 = .ok (.aload_n 2, 1) := by decide +kernel
theorem d101_11 : decode prog_6_method_3_code 11 = .ok (.getfield 54, 3) := by decide +kernel
theorem f101_54 : xFd (xMo 101) 54 = some (9, 3) := by decide +kernel
theorem d101_14 : decode prog_6_method_3_code 14 = .ok (.iload_n 1, 1) := by decide +kernel
theorem d101_15 : decode prog_6_method_3_code 15 = .ok (.iaload, 1) := by decide +kernel
theorem d101_16 : decode prog_6_method_3_code 16 = .ok (.if_icmp .ge 75, 3) := by decide +kernel
theorem d101_19 : decode prog_6_method_3_code 19 = .ok (.aload_n 2, 1) := by decide +kernel
theorem d101_20 : decode prog_6_method_3_code 20 = .ok (.getfield 57, 3) := by decide +kernel
theorem f101_57 : xFd (xMo 101) 57 = some (9, 4) := by decide +kernel
theorem d101_23 : decode prog_6_method_3_code 23 = .ok (.iload_n 3, 1) := by decide +kernel
theorem d101_24 : decode prog_6_method_3_code 24 = .ok (.iload 4, 2) := by decide +kernel
theorem d101_26 : decode prog_6_method_3_code 26 = .ok (.iadd, 1) := by decide +kernel
theorem d101_27 : decode prog_6_method_3_code 27 = .ok (.iaload, 1) := by decide +kernel
theorem d101_28 : decode prog_6_method_3_code 28 = .ok (.istore 5, 2) := by decide +kernel
theorem d101_30 : decode prog_6_method_3_code 30 = .ok (.iload 5, 2) := by decide +kernel
theorem d101_32 : decode prog_6_method_3_code 32 = .ok (.invokestatic 60, 3) := by decide +kernel
theorem k101_60_99 : xCa (xMo 101) 60 99 = some (0, 171, 1) := by decide +kernel
theorem d101_35 : decode prog_6_method_3_code 35 = .ok (.iconst 2, 1) := by decide +kernel
theorem d101_36 : decode prog_6_method_3_code 36 = .ok (.if_icmp .ne 19, 3) := by decide +kernel
theorem d101_39 : decode prog_6_method_3_code 39 = .ok (.aload_n 0, 1) := by decide +kernel
theorem d101_40 : decode prog_6_method_3_code 40 = .ok (.iload_n 1, 1) := by decide +kernel
theorem d101_41 : decode prog_6_method_3_code 41 = .ok (.iload 5, 2) := by decide +kernel
theorem d101_43 : decode prog_6_method_3_code 43 = .ok (.invokestatic 66, 3) := by decide +kernel
theorem k101_66_99 : xCa (xMo 101) 66 99 = some (0, 169, 1) := by decide +kernel
theorem d101_46 : decode prog_6_method_3_code 46 = .ok (.invokestatic 69, 3) := by decide +kernel
theorem k101_69_99 : xCa (xMo 101) 69 99 = some (0, 172, 1) := by decide +kernel
theorem d101_49 : decode prog_6_method_3_code 49 = .ok (.invokevirtual 72, 3) := by decide +kernel
theorem k101_72_6 : xCa (xMo 101) 72 6 = some (1, 102, 2) := by decide +kernel
theorem n101_72 : xcn (xMo 101) 72 = some 2 := by decide +kernel
theorem d101_52 : decode prog_6_method_3_code 52 = .ok (.goto 33, 3) := by decide +kernel
theorem d101_55 : decode prog_6_method_3_code 55 = .ok (.iload 5, 2) := by decide +kernel
theorem d101_57 : decode prog_6_method_3_code 57 = .ok (.invokestatic 60, 3) := by decide +kernel
theorem d101_60 : decode prog_6_method_3_code 60 = .ok (.iconst 3, 1) := by decide +kernel
theorem d101_61 : decode prog_6_method_3_code 61 = .ok (.if_icmp .ne 24, 3) := by decide +kernel
theorem d101_64 : decode prog_6_method_3_code 64 = .ok (.aload_n 0, 1) := by decide +kernel
theorem d101_65 : decode prog_6_method_3_code 65 = .ok (.iload_n 1, 1) := by decide +kernel
theorem d101_66 : decode prog_6_method_3_code 66 = .ok (.iload 5, 2) := by decide +kernel
theorem d101_68 : decode prog_6_method_3_code 68 = .ok (.invokestatic 76, 3) := by decide +kernel
theorem k101_76_99 : xCa (xMo 101) 76 99 = some (0, 173, 1) := by decide +kernel
theorem d101_71 : decode prog_6_method_3_code 71 = .ok (.invokestatic 69, 3) := by decide +kernel
theorem d101_74 : decode prog_6_method_3_code 74 = .ok (.iload 5, 2) := by decide +kernel
theorem d101_76 : decode prog_6_method_3_code 76 = .ok (.invokestatic 79, 3) := by decide +kernel
theorem k101_79_99 : xCa (xMo 101) 79 99 = some (0, 174, 1) := by decide +kernel
theorem d101_79 : decode prog_6_method_3_code 79 = .ok (.invokestatic 69, 3) := by decide +kernel
theorem d101_82 : decode prog_6_method_3_code 82 = .ok (.invokevirtual 82, 3) := by decide +kernel
theorem k101_82_6 : xCa (xMo 101) 82 6 = some (1, 103, 3) := by decide +kernel
theorem n101_82 : xcn (xMo 101) 82 = some 3 := by decide +kernel
theorem d101_85 : decode prog_6_method_3_code 85 = .ok (.iinc 4 1, 3) := by decide +kernel
theorem d101_88 : decode prog_6_method_3_code 88 = .ok (.goto (-80), 3) := by decide +kernel
theorem d101_91 : decode prog_6_method_3_code 91 = .ok (.return_, 1) := by decide +kernel
set_option maxRecDepth 100000 in
theorem q102 : xMc 102 = prog_6_method_5_code := rfl
theorem m102 : xMl 102 = 3 ∧ xMret 102 = none ∧ xMh 102 = [] := by decide +kernel
theorem e102 {X : xX} {d : Nat} {w : xH} {Q : xO → xH → Prop} (a : Nat) (x0 : Int32) (x1 : Int32) : Cw X d 102 [.ref a, .int x0, .int x1] w Q = Wx X d 102 0 [some (.ref a), some (.int x0), some (.int x1)] [] w Q := by
  unfold Cw
  rw [m102.1]
  rfl
theorem d102_0 : decode prog_6_method_5_code 0 = .ok (.aload_n 0, 1) := by decide +kernel
theorem d102_1 : decode prog_6_method_5_code 1 = .ok (.getfield 11, 3) := by decide +kernel
theorem f102_11 : xFd (xMo 102) 11 = some (6, 0) := by decide +kernel
theorem d102_4 : decode prog_6_method_5_code 4 = .ok (.iload_n 1, 1) := by decide +kernel
theorem d102_5 : decode prog_6_method_5_code 5 = .ok (.iconst 4, 1) := by decide +kernel
theorem d102_6 : decode prog_6_method_5_code 6 = .ok (.imul, 1) := by decide +kernel
theorem d102_7 : decode prog_6_method_5_code 7 = .ok (.iload_n 2, 1) := by decide +kernel
theorem d102_8 : decode prog_6_method_5_code 8 = .ok (.bipush 6, 2) := by decide +kernel
theorem d102_10 : decode prog_6_method_5_code 10 = .ok (.ishr, 1) := by decide +kernel
theorem d102_11 : decode prog_6_method_5_code 11 = .ok (.iadd, 1) := by decide +kernel
theorem d102_12 : decode prog_6_method_5_code 12 = .ok (.dup2, 1) := by decide +kernel
theorem d102_13 : decode prog_6_method_5_code 13 = .ok (.laload, 1) := by decide +kernel
theorem d102_14 : decode prog_6_method_5_code 14 = .ok (.lconst 1, 1) := by decide +kernel
theorem d102_15 : decode prog_6_method_5_code 15 = .ok (.iload_n 2, 1) := by decide +kernel
theorem d102_16 : decode prog_6_method_5_code 16 = .ok (.bipush 63, 2) := by decide +kernel
theorem d102_18 : decode prog_6_method_5_code 18 = .ok (.iand, 1) := by decide +kernel
theorem d102_19 : decode prog_6_method_5_code 19 = .ok (.lshl, 1) := by decide +kernel
theorem d102_20 : decode prog_6_method_5_code 20 = .ok (.lor, 1) := by decide +kernel
theorem d102_21 : decode prog_6_method_5_code 21 = .ok (.lastore, 1) := by decide +kernel
theorem d102_22 : decode prog_6_method_5_code 22 = .ok (.return_, 1) := by decide +kernel
set_option maxRecDepth 100000 in
theorem q103 : xMc 103 = prog_6_method_4_code := rfl
theorem m103 : xMl 103 = 8 ∧ xMret 103 = none ∧ xMh 103 = [] := by decide +kernel
theorem e103 {X : xX} {d : Nat} {w : xH} {Q : xO → xH → Prop} (a : Nat) (x0 : Int32) (x1 : Int32) (x2 : Int32) : Cw X d 103 [.ref a, .int x0, .int x1, .int x2] w Q = Wx X d 103 0 [some (.ref a), some (.int x0), some (.int x1), some (.int x2), none, none, none, none] [] w Q := by
  unfold Cw
  rw [m103.1]
  rfl
theorem d103_0 : decode prog_6_method_4_code 0 = .ok (.iload_n 2, 1) := by decide +kernel
theorem d103_1 : decode prog_6_method_4_code 1 = .ok (.bipush 10, 2) := by decide +kernel
theorem d103_3 : decode prog_6_method_4_code 3 = .ok (.idiv, 1) := by decide +kernel
theorem d103_4 : decode prog_6_method_4_code 4 = .ok (.iload_n 3, 1) := by decide +kernel
theorem d103_5 : decode prog_6_method_4_code 5 = .ok (.bipush 10, 2) := by decide +kernel
theorem d103_7 : decode prog_6_method_4_code 7 = .ok (.idiv, 1) := by decide +kernel
theorem d103_8 : decode prog_6_method_4_code 8 = .ok (.invokestatic 86, 3) := by decide +kernel
theorem k103_86_99 : xCa (xMo 103) 86 99 = some (0, 410, 2) := by decide +kernel
theorem d103_11 : decode prog_6_method_4_code 11 = .ok (.istore 4, 2) := by decide +kernel
theorem d103_13 : decode prog_6_method_4_code 13 = .ok (.iload_n 2, 1) := by decide +kernel
theorem d103_14 : decode prog_6_method_4_code 14 = .ok (.bipush 10, 2) := by decide +kernel
theorem d103_16 : decode prog_6_method_4_code 16 = .ok (.irem, 1) := by decide +kernel
theorem d103_17 : decode prog_6_method_4_code 17 = .ok (.iload_n 3, 1) := by decide +kernel
theorem d103_18 : decode prog_6_method_4_code 18 = .ok (.bipush 10, 2) := by decide +kernel
theorem d103_20 : decode prog_6_method_4_code 20 = .ok (.irem, 1) := by decide +kernel
theorem d103_21 : decode prog_6_method_4_code 21 = .ok (.invokestatic 86, 3) := by decide +kernel
theorem d103_24 : decode prog_6_method_4_code 24 = .ok (.istore 5, 2) := by decide +kernel
theorem d103_26 : decode prog_6_method_4_code 26 = .ok (.iload_n 2, 1) := by decide +kernel
theorem d103_27 : decode prog_6_method_4_code 27 = .ok (.bipush 10, 2) := by decide +kernel
theorem d103_29 : decode prog_6_method_4_code 29 = .ok (.idiv, 1) := by decide +kernel
theorem d103_30 : decode prog_6_method_4_code 30 = .ok (.iload_n 3, 1) := by decide +kernel
theorem d103_31 : decode prog_6_method_4_code 31 = .ok (.bipush 10, 2) := by decide +kernel
theorem d103_33 : decode prog_6_method_4_code 33 = .ok (.idiv, 1) := by decide +kernel
theorem d103_34 : decode prog_6_method_4_code 34 = .ok (.invokestatic 92, 3) := by decide +kernel
theorem k103_92_99 : xCa (xMo 103) 92 99 = some (0, 409, 2) := by decide +kernel
theorem d103_37 : decode prog_6_method_4_code 37 = .ok (.istore 6, 2) := by decide +kernel
theorem d103_39 : decode prog_6_method_4_code 39 = .ok (.iload 6, 2) := by decide +kernel
theorem d103_41 : decode prog_6_method_4_code 41 = .ok (.iload 4, 2) := by decide +kernel
theorem d103_43 : decode prog_6_method_4_code 43 = .ok (.if_icmp .gt 48, 3) := by decide +kernel
theorem d103_46 : decode prog_6_method_4_code 46 = .ok (.iload_n 2, 1) := by decide +kernel
theorem d103_47 : decode prog_6_method_4_code 47 = .ok (.bipush 10, 2) := by decide +kernel
theorem d103_49 : decode prog_6_method_4_code 49 = .ok (.irem, 1) := by decide +kernel
theorem d103_50 : decode prog_6_method_4_code 50 = .ok (.iload_n 3, 1) := by decide +kernel
theorem d103_51 : decode prog_6_method_4_code 51 = .ok (.bipush 10, 2) := by decide +kernel
theorem d103_53 : decode prog_6_method_4_code 53 = .ok (.irem, 1) := by decide +kernel
theorem d103_54 : decode prog_6_method_4_code 54 = .ok (.invokestatic 92, 3) := by decide +kernel
theorem d103_57 : decode prog_6_method_4_code 57 = .ok (.istore 7, 2) := by decide +kernel
theorem d103_59 : decode prog_6_method_4_code 59 = .ok (.iload 7, 2) := by decide +kernel
theorem d103_61 : decode prog_6_method_4_code 61 = .ok (.iload 5, 2) := by decide +kernel
theorem d103_63 : decode prog_6_method_4_code 63 = .ok (.if_icmp .gt 22, 3) := by decide +kernel
theorem d103_66 : decode prog_6_method_4_code 66 = .ok (.aload_n 0, 1) := by decide +kernel
theorem d103_67 : decode prog_6_method_4_code 67 = .ok (.iload_n 1, 1) := by decide +kernel
theorem d103_68 : decode prog_6_method_4_code 68 = .ok (.bipush 10, 2) := by decide +kernel
theorem d103_70 : decode prog_6_method_4_code 70 = .ok (.iload 6, 2) := by decide +kernel
theorem d103_72 : decode prog_6_method_4_code 72 = .ok (.imul, 1) := by decide +kernel
theorem d103_73 : decode prog_6_method_4_code 73 = .ok (.iload 7, 2) := by decide +kernel
theorem d103_75 : decode prog_6_method_4_code 75 = .ok (.iadd, 1) := by decide +kernel
theorem d103_76 : decode prog_6_method_4_code 76 = .ok (.invokevirtual 72, 3) := by decide +kernel
theorem k103_72_6 : xCa (xMo 103) 72 6 = some (1, 102, 2) := by decide +kernel
theorem n103_72 : xcn (xMo 103) 72 = some 2 := by decide +kernel
theorem d103_79 : decode prog_6_method_4_code 79 = .ok (.iinc 7 1, 3) := by decide +kernel
theorem d103_82 : decode prog_6_method_4_code 82 = .ok (.goto (-23), 3) := by decide +kernel
theorem d103_85 : decode prog_6_method_4_code 85 = .ok (.iinc 6 1, 3) := by decide +kernel
theorem d103_88 : decode prog_6_method_4_code 88 = .ok (.goto (-49), 3) := by decide +kernel
theorem d103_91 : decode prog_6_method_4_code 91 = .ok (.return_, 1) := by decide +kernel
set_option maxRecDepth 100000 in
theorem q104 : xMc 104 = prog_6_method_7_code := rfl
theorem m104 : xMl 104 = 4 ∧ xMret 104 = none ∧ xMh 104 = [] := by decide +kernel
theorem e104 {X : xX} {d : Nat} {w : xH} {Q : xO → xH → Prop} (a : Nat) : Cw X d 104 [.ref a] w Q = Wx X d 104 0 [some (.ref a), none, none, none] [] w Q := by
  unfold Cw
  rw [m104.1]
  rfl
theorem d104_0 : decode prog_6_method_7_code 0 = .ok (.aload_n 0, 1) := by decide +kernel
theorem d104_1 : decode prog_6_method_7_code 1 = .ok (.iconst 0, 1) := by decide +kernel
theorem d104_2 : decode prog_6_method_7_code 2 = .ok (.putfield 95, 3) := by decide +kernel
theorem f104_95 : xFd (xMo 104) 95 = some (6, 4) := by decide +kernel
theorem d104_5 : decode prog_6_method_7_code 5 = .ok (.iconst 0, 1) := by decide +kernel
theorem d104_6 : decode prog_6_method_7_code 6 = .ok (.istore_n 1, 1) := by decide +kernel
theorem d104_7 : decode prog_6_method_7_code 7 = .ok (.iload_n 1, 1) := by decide +kernel
theorem d104_8 : decode prog_6_method_7_code 8 = .ok (.aload_n 0, 1) := by decide +kernel
theorem d104_9 : decode prog_6_method_7_code 9 = .ok (.getfield 38, 3) := by decide +kernel
theorem f104_38 : xFd (xMo 104) 38 = some (6, 2) := by decide +kernel
theorem d104_12 : decode prog_6_method_7_code 12 = .ok (.if_icmp .ge 30, 3) := by decide +kernel
theorem d104_15 : decode prog_6_method_7_code 15 = .ok (.aload_n 0, 1) := by decide +kernel
theorem d104_16 : decode prog_6_method_7_code 16 = .ok (.getfield 25, 3) := by decide +kernel
theorem f104_25 : xFd (xMo 104) 25 = some (6, 6) := by decide +kernel
theorem d104_19 : decode prog_6_method_7_code 19 = .ok (.aload_n 0, 1) := by decide +kernel
theorem d104_20 : decode prog_6_method_7_code 20 = .ok (.getfield 15, 3) := by decide +kernel
theorem f104_15 : xFd (xMo 104) 15 = some (6, 1) := by decide +kernel
theorem d104_23 : decode prog_6_method_7_code 23 = .ok (.iload_n 1, 1) := by decide +kernel
theorem d104_24 : decode prog_6_method_7_code 24 = .ok (.iaload, 1) := by decide +kernel
theorem d104_25 : decode prog_6_method_7_code 25 = .ok (.aload_n 0, 1) := by decide +kernel
theorem d104_26 : decode prog_6_method_7_code 26 = .ok (.aload_n 0, 1) := by decide +kernel
theorem d104_27 : decode prog_6_method_7_code 27 = .ok (.getfield 15, 3) := by decide +kernel
theorem d104_30 : decode prog_6_method_7_code 30 = .ok (.iload_n 1, 1) := by decide +kernel
theorem d104_31 : decode prog_6_method_7_code 31 = .ok (.iaload, 1) := by decide +kernel
theorem d104_32 : decode prog_6_method_7_code 32 = .ok (.invokevirtual 98, 3) := by decide +kernel
theorem k104_98_6 : xCa (xMo 104) 98 6 = some (1, 105, 1) := by decide +kernel
theorem n104_98 : xcn (xMo 104) 98 = some 1 := by decide +kernel
theorem d104_35 : decode prog_6_method_7_code 35 = .ok (.iastore, 1) := by decide +kernel
theorem d104_36 : decode prog_6_method_7_code 36 = .ok (.iinc 1 1, 3) := by decide +kernel
theorem d104_39 : decode prog_6_method_7_code 39 = .ok (.goto (-32), 3) := by decide +kernel
theorem d104_42 : decode prog_6_method_7_code 42 = .ok (.iconst 0, 1) := by decide +kernel
theorem d104_43 : decode prog_6_method_7_code 43 = .ok (.istore_n 1, 1) := by decide +kernel
theorem d104_44 : decode prog_6_method_7_code 44 = .ok (.iload_n 1, 1) := by decide +kernel
theorem d104_45 : decode prog_6_method_7_code 45 = .ok (.aload_n 0, 1) := by decide +kernel
theorem d104_46 : decode prog_6_method_7_code 46 = .ok (.getfield 38, 3) := by decide +kernel
theorem d104_49 : decode prog_6_method_7_code 49 = .ok (.if_icmp .ge 96, 3) := by decide +kernel
theorem d104_52 : decode prog_6_method_7_code 52 = .ok (.aload_n 0, 1) := by decide +kernel
theorem d104_53 : decode prog_6_method_7_code 53 = .ok (.invokevirtual 101, 3) := by decide +kernel
theorem k104_101_6 : xCa (xMo 104) 101 6 = some (1, 107, 0) := by decide +kernel
theorem n104_101 : xcn (xMo 104) 101 = some 0 := by decide +kernel
theorem d104_56 : decode prog_6_method_7_code 56 = .ok (.istore_n 2, 1) := by decide +kernel
theorem d104_57 : decode prog_6_method_7_code 57 = .ok (.iload_n 2, 1) := by decide +kernel
theorem d104_58 : decode prog_6_method_7_code 58 = .ok (.ifCond .ge 6, 3) := by decide +kernel
theorem d104_61 : decode prog_6_method_7_code 61 = .ok (.goto 84, 3) := by decide +kernel
theorem d104_64 : decode prog_6_method_7_code 64 = .ok (.aload_n 0, 1) := by decide +kernel
theorem d104_65 : decode prog_6_method_7_code 65 = .ok (.getfield 19, 3) := by decide +kernel
theorem f104_19 : xFd (xMo 104) 19 = some (6, 3) := by decide +kernel
theorem d104_68 : decode prog_6_method_7_code 68 = .ok (.aload_n 0, 1) := by decide +kernel
theorem d104_69 : decode prog_6_method_7_code 69 = .ok (.getfield 95, 3) := by decide +kernel
theorem d104_72 : decode prog_6_method_7_code 72 = .ok (.iload_n 2, 1) := by decide +kernel
theorem d104_73 : decode prog_6_method_7_code 73 = .ok (.iastore, 1) := by decide +kernel
theorem d104_74 : decode prog_6_method_7_code 74 = .ok (.aload_n 0, 1) := by decide +kernel
theorem d104_75 : decode prog_6_method_7_code 75 = .ok (.getfield 22, 3) := by decide +kernel
theorem f104_22 : xFd (xMo 104) 22 = some (6, 5) := by decide +kernel
theorem d104_78 : decode prog_6_method_7_code 78 = .ok (.iload_n 2, 1) := by decide +kernel
theorem d104_79 : decode prog_6_method_7_code 79 = .ok (.aload_n 0, 1) := by decide +kernel
theorem d104_80 : decode prog_6_method_7_code 80 = .ok (.getfield 95, 3) := by decide +kernel
theorem d104_83 : decode prog_6_method_7_code 83 = .ok (.iastore, 1) := by decide +kernel
theorem d104_84 : decode prog_6_method_7_code 84 = .ok (.aload_n 0, 1) := by decide +kernel
theorem d104_85 : decode prog_6_method_7_code 85 = .ok (.dup, 1) := by decide +kernel
theorem d104_86 : decode prog_6_method_7_code 86 = .ok (.getfield 95, 3) := by decide +kernel
theorem d104_89 : decode prog_6_method_7_code 89 = .ok (.iconst 1, 1) := by decide +kernel
theorem d104_90 : decode prog_6_method_7_code 90 = .ok (.iadd, 1) := by decide +kernel
theorem d104_91 : decode prog_6_method_7_code 91 = .ok (.putfield 95, 3) := by decide +kernel
theorem d104_94 : decode prog_6_method_7_code 94 = .ok (.iconst 0, 1) := by decide +kernel
theorem d104_95 : decode prog_6_method_7_code 95 = .ok (.istore_n 3, 1) := by decide +kernel
theorem d104_96 : decode prog_6_method_7_code 96 = .ok (.iload_n 3, 1) := by decide +kernel
theorem d104_97 : decode prog_6_method_7_code 97 = .ok (.aload_n 0, 1) := by decide +kernel
theorem d104_98 : decode prog_6_method_7_code 98 = .ok (.getfield 38, 3) := by decide +kernel
theorem d104_101 : decode prog_6_method_7_code 101 = .ok (.if_icmp .ge 38, 3) := by decide +kernel
theorem d104_104 : decode prog_6_method_7_code 104 = .ok (.aload_n 0, 1) := by decide +kernel
theorem d104_105 : decode prog_6_method_7_code 105 = .ok (.aload_n 0, 1) := by decide +kernel
theorem d104_106 : decode prog_6_method_7_code 106 = .ok (.getfield 15, 3) := by decide +kernel
theorem d104_109 : decode prog_6_method_7_code 109 = .ok (.iload_n 3, 1) := by decide +kernel
theorem d104_110 : decode prog_6_method_7_code 110 = .ok (.iaload, 1) := by decide +kernel
theorem d104_111 : decode prog_6_method_7_code 111 = .ok (.iload_n 2, 1) := by decide +kernel
theorem d104_112 : decode prog_6_method_7_code 112 = .ok (.invokevirtual 105, 3) := by decide +kernel
theorem k104_105_6 : xCa (xMo 104) 105 6 = some (1, 106, 2) := by decide +kernel
theorem n104_105 : xcn (xMo 104) 105 = some 2 := by decide +kernel
theorem d104_115 : decode prog_6_method_7_code 115 = .ok (.ifCond .eq 18, 3) := by decide +kernel
theorem d104_118 : decode prog_6_method_7_code 118 = .ok (.aload_n 0, 1) := by decide +kernel
theorem d104_119 : decode prog_6_method_7_code 119 = .ok (.getfield 25, 3) := by decide +kernel
theorem d104_122 : decode prog_6_method_7_code 122 = .ok (.aload_n 0, 1) := by decide +kernel
theorem d104_123 : decode prog_6_method_7_code 123 = .ok (.getfield 15, 3) := by decide +kernel
theorem d104_126 : decode prog_6_method_7_code 126 = .ok (.iload_n 3, 1) := by decide +kernel
theorem d104_127 : decode prog_6_method_7_code 127 = .ok (.iaload, 1) := by decide +kernel
theorem d104_128 : decode prog_6_method_7_code 128 = .ok (.dup2, 1) := by decide +kernel
theorem d104_129 : decode prog_6_method_7_code 129 = .ok (.iaload, 1) := by decide +kernel
theorem d104_130 : decode prog_6_method_7_code 130 = .ok (.iconst 1, 1) := by decide +kernel
theorem d104_131 : decode prog_6_method_7_code 131 = .ok (.isub, 1) := by decide +kernel
theorem d104_132 : decode prog_6_method_7_code 132 = .ok (.iastore, 1) := by decide +kernel
theorem d104_133 : decode prog_6_method_7_code 133 = .ok (.iinc 3 1, 3) := by decide +kernel
theorem d104_136 : decode prog_6_method_7_code 136 = .ok (.goto (-40), 3) := by decide +kernel
theorem d104_139 : decode prog_6_method_7_code 139 = .ok (.iinc 1 1, 3) := by decide +kernel
theorem d104_142 : decode prog_6_method_7_code 142 = .ok (.goto (-98), 3) := by decide +kernel
theorem d104_145 : decode prog_6_method_7_code 145 = .ok (.return_, 1) := by decide +kernel
set_option maxRecDepth 100000 in
theorem q105 : xMc 105 = prog_6_method_8_code := rfl
theorem m105 : xMl 105 = 4 ∧ xMret 105 = (some FieldType.int) ∧ xMh 105 = [] := by decide +kernel
theorem e105 {X : xX} {d : Nat} {w : xH} {Q : xO → xH → Prop} (a : Nat) (x0 : Int32) : Cw X d 105 [.ref a, .int x0] w Q = Wx X d 105 0 [some (.ref a), some (.int x0), none, none] [] w Q := by
  unfold Cw
  rw [m105.1]
  rfl
theorem d105_0 : decode prog_6_method_8_code 0 = .ok (.iconst 0, 1) := by decide +kernel
theorem d105_1 : decode prog_6_method_8_code 1 = .ok (.istore_n 2, 1) := by decide +kernel
theorem d105_2 : decode prog_6_method_8_code 2 = .ok (.iconst 0, 1) := by decide +kernel
theorem d105_3 : decode prog_6_method_8_code 3 = .ok (.istore_n 3, 1) := by decide +kernel
theorem d105_4 : decode prog_6_method_8_code 4 = .ok (.iload_n 3, 1) := by decide +kernel
theorem d105_5 : decode prog_6_method_8_code 5 = .ok (.aload_n 0, 1) := by decide +kernel
theorem d105_6 : decode prog_6_method_8_code 6 = .ok (.getfield 38, 3) := by decide +kernel
theorem f105_38 : xFd (xMo 105) 38 = some (6, 2) := by decide +kernel
theorem d105_9 : decode prog_6_method_8_code 9 = .ok (.if_icmp .ge 26, 3) := by decide +kernel
theorem d105_12 : decode prog_6_method_8_code 12 = .ok (.aload_n 0, 1) := by decide +kernel
theorem d105_13 : decode prog_6_method_8_code 13 = .ok (.iload_n 1, 1) := by decide +kernel
theorem d105_14 : decode prog_6_method_8_code 14 = .ok (.aload_n 0, 1) := by decide +kernel
theorem d105_15 : decode prog_6_method_8_code 15 = .ok (.getfield 15, 3) := by decide +kernel
theorem f105_15 : xFd (xMo 105) 15 = some (6, 1) := by decide +kernel
theorem d105_18 : decode prog_6_method_8_code 18 = .ok (.iload_n 3, 1) := by decide +kernel
theorem d105_19 : decode prog_6_method_8_code 19 = .ok (.iaload, 1) := by decide +kernel
theorem d105_20 : decode prog_6_method_8_code 20 = .ok (.invokevirtual 105, 3) := by decide +kernel
theorem k105_105_6 : xCa (xMo 105) 105 6 = some (1, 106, 2) := by decide +kernel
theorem n105_105 : xcn (xMo 105) 105 = some 2 := by decide +kernel
theorem d105_23 : decode prog_6_method_8_code 23 = .ok (.ifCond .eq 6, 3) := by decide +kernel
theorem d105_26 : decode prog_6_method_8_code 26 = .ok (.iinc 2 1, 3) := by decide +kernel
theorem d105_29 : decode prog_6_method_8_code 29 = .ok (.iinc 3 1, 3) := by decide +kernel
theorem d105_32 : decode prog_6_method_8_code 32 = .ok (.goto (-28), 3) := by decide +kernel
theorem d105_35 : decode prog_6_method_8_code 35 = .ok (.iload_n 2, 1) := by decide +kernel
theorem d105_36 : decode prog_6_method_8_code 36 = .ok (.ireturn, 1) := by decide +kernel
set_option maxRecDepth 100000 in
theorem q106 : xMc 106 = prog_6_method_6_code := rfl
theorem m106 : xMl 106 = 3 ∧ xMret 106 = (some FieldType.boolean) ∧ xMh 106 = [] := by decide +kernel
theorem e106 {X : xX} {d : Nat} {w : xH} {Q : xO → xH → Prop} (a : Nat) (x0 : Int32) (x1 : Int32) : Cw X d 106 [.ref a, .int x0, .int x1] w Q = Wx X d 106 0 [some (.ref a), some (.int x0), some (.int x1)] [] w Q := by
  unfold Cw
  rw [m106.1]
  rfl
theorem d106_0 : decode prog_6_method_6_code 0 = .ok (.aload_n 0, 1) := by decide +kernel
theorem d106_1 : decode prog_6_method_6_code 1 = .ok (.getfield 11, 3) := by decide +kernel
theorem f106_11 : xFd (xMo 106) 11 = some (6, 0) := by decide +kernel
theorem d106_4 : decode prog_6_method_6_code 4 = .ok (.iload_n 1, 1) := by decide +kernel
theorem d106_5 : decode prog_6_method_6_code 5 = .ok (.iconst 4, 1) := by decide +kernel
theorem d106_6 : decode prog_6_method_6_code 6 = .ok (.imul, 1) := by decide +kernel
theorem d106_7 : decode prog_6_method_6_code 7 = .ok (.iload_n 2, 1) := by decide +kernel
theorem d106_8 : decode prog_6_method_6_code 8 = .ok (.bipush 6, 2) := by decide +kernel
theorem d106_10 : decode prog_6_method_6_code 10 = .ok (.ishr, 1) := by decide +kernel
theorem d106_11 : decode prog_6_method_6_code 11 = .ok (.iadd, 1) := by decide +kernel
theorem d106_12 : decode prog_6_method_6_code 12 = .ok (.laload, 1) := by decide +kernel
theorem d106_13 : decode prog_6_method_6_code 13 = .ok (.iload_n 2, 1) := by decide +kernel
theorem d106_14 : decode prog_6_method_6_code 14 = .ok (.bipush 63, 2) := by decide +kernel
theorem d106_16 : decode prog_6_method_6_code 16 = .ok (.iand, 1) := by decide +kernel
theorem d106_17 : decode prog_6_method_6_code 17 = .ok (.lushr, 1) := by decide +kernel
theorem d106_18 : decode prog_6_method_6_code 18 = .ok (.lconst 1, 1) := by decide +kernel
theorem d106_19 : decode prog_6_method_6_code 19 = .ok (.land, 1) := by decide +kernel
theorem d106_20 : decode prog_6_method_6_code 20 = .ok (.lconst 0, 1) := by decide +kernel
theorem d106_21 : decode prog_6_method_6_code 21 = .ok (.lcmp, 1) := by decide +kernel
theorem d106_22 : decode prog_6_method_6_code 22 = .ok (.ifCond .eq 7, 3) := by decide +kernel
theorem d106_25 : decode prog_6_method_6_code 25 = .ok (.iconst 1, 1) := by decide +kernel
theorem d106_26 : decode prog_6_method_6_code 26 = .ok (.goto 4, 3) := by decide +kernel
theorem d106_29 : decode prog_6_method_6_code 29 = .ok (.iconst 0, 1) := by decide +kernel
theorem d106_30 : decode prog_6_method_6_code 30 = .ok (.ireturn, 1) := by decide +kernel
set_option maxRecDepth 100000 in
theorem q107 : xMc 107 = prog_6_method_9_code := rfl
theorem m107 : xMl 107 = 3 ∧ xMret 107 = (some FieldType.int) ∧ xMh 107 = [] := by decide +kernel
theorem e107 {X : xX} {d : Nat} {w : xH} {Q : xO → xH → Prop} (a : Nat) : Cw X d 107 [.ref a] w Q = Wx X d 107 0 [some (.ref a), none, none] [] w Q := by
  unfold Cw
  rw [m107.1]
  rfl
theorem d107_0 : decode prog_6_method_9_code 0 = .ok (.iconst 0, 1) := by decide +kernel
theorem d107_1 : decode prog_6_method_9_code 1 = .ok (.istore_n 1, 1) := by decide +kernel
theorem d107_2 : decode prog_6_method_9_code 2 = .ok (.iload_n 1, 1) := by decide +kernel
theorem d107_3 : decode prog_6_method_9_code 3 = .ok (.aload_n 0, 1) := by decide +kernel
theorem d107_4 : decode prog_6_method_9_code 4 = .ok (.getfield 38, 3) := by decide +kernel
theorem f107_38 : xFd (xMo 107) 38 = some (6, 2) := by decide +kernel
theorem d107_7 : decode prog_6_method_9_code 7 = .ok (.if_icmp .ge 36, 3) := by decide +kernel
theorem d107_10 : decode prog_6_method_9_code 10 = .ok (.aload_n 0, 1) := by decide +kernel
theorem d107_11 : decode prog_6_method_9_code 11 = .ok (.getfield 15, 3) := by decide +kernel
theorem f107_15 : xFd (xMo 107) 15 = some (6, 1) := by decide +kernel
theorem d107_14 : decode prog_6_method_9_code 14 = .ok (.iload_n 1, 1) := by decide +kernel
theorem d107_15 : decode prog_6_method_9_code 15 = .ok (.iaload, 1) := by decide +kernel
theorem d107_16 : decode prog_6_method_9_code 16 = .ok (.istore_n 2, 1) := by decide +kernel
theorem d107_17 : decode prog_6_method_9_code 17 = .ok (.aload_n 0, 1) := by decide +kernel
theorem d107_18 : decode prog_6_method_9_code 18 = .ok (.getfield 22, 3) := by decide +kernel
theorem f107_22 : xFd (xMo 107) 22 = some (6, 5) := by decide +kernel
theorem d107_21 : decode prog_6_method_9_code 21 = .ok (.iload_n 2, 1) := by decide +kernel
theorem d107_22 : decode prog_6_method_9_code 22 = .ok (.iaload, 1) := by decide +kernel
theorem d107_23 : decode prog_6_method_9_code 23 = .ok (.ifCond .ge 14, 3) := by decide +kernel
theorem d107_26 : decode prog_6_method_9_code 26 = .ok (.aload_n 0, 1) := by decide +kernel
theorem d107_27 : decode prog_6_method_9_code 27 = .ok (.getfield 25, 3) := by decide +kernel
theorem f107_25 : xFd (xMo 107) 25 = some (6, 6) := by decide +kernel
theorem d107_30 : decode prog_6_method_9_code 30 = .ok (.iload_n 2, 1) := by decide +kernel
theorem d107_31 : decode prog_6_method_9_code 31 = .ok (.iaload, 1) := by decide +kernel
theorem d107_32 : decode prog_6_method_9_code 32 = .ok (.ifCond .ne 5, 3) := by decide +kernel
theorem d107_35 : decode prog_6_method_9_code 35 = .ok (.iload_n 2, 1) := by decide +kernel
theorem d107_36 : decode prog_6_method_9_code 36 = .ok (.ireturn, 1) := by decide +kernel
theorem d107_37 : decode prog_6_method_9_code 37 = .ok (.iinc 1 1, 3) := by decide +kernel
theorem d107_40 : decode prog_6_method_9_code 40 = .ok (.goto (-38), 3) := by decide +kernel
theorem d107_43 : decode prog_6_method_9_code 43 = .ok (.iconst (-1), 1) := by decide +kernel
theorem d107_44 : decode prog_6_method_9_code 44 = .ok (.ireturn, 1) := by decide +kernel
set_option maxRecDepth 100000 in
theorem q108 : xMc 108 = prog_6_method_13_code := rfl
theorem m108 : xMl 108 = 4 ∧ xMret 108 = none ∧ xMh 108 = [] := by decide +kernel
theorem e108 {X : xX} {d : Nat} {w : xH} {Q : xO → xH → Prop} (a : Nat) (x0 : Int32) : Cw X d 108 [.ref a, .int x0] w Q = Wx X d 108 0 [some (.ref a), some (.int x0), none, none] [] w Q := by
  unfold Cw
  rw [m108.1]
  rfl
theorem d108_0 : decode prog_6_method_13_code 0 = .ok (.aload_n 0, 1) := by decide +kernel
theorem d108_1 : decode prog_6_method_13_code 1 = .ok (.invokevirtual 115, 3) := by decide +kernel
theorem k108_115_6 : xCa (xMo 108) 115 6 = some (1, 109, 0) := by decide +kernel
theorem n108_115 : xcn (xMo 108) 115 = some 0 := by decide +kernel
theorem d108_4 : decode prog_6_method_13_code 4 = .ok (.aload_n 0, 1) := by decide +kernel
theorem d108_5 : decode prog_6_method_13_code 5 = .ok (.iload_n 1, 1) := by decide +kernel
theorem d108_6 : decode prog_6_method_13_code 6 = .ok (.iconst 1, 1) := by decide +kernel
theorem d108_7 : decode prog_6_method_13_code 7 = .ok (.iconst 0, 1) := by decide +kernel
theorem d108_8 : decode prog_6_method_13_code 8 = .ok (.invokevirtual 118, 3) := by decide +kernel
theorem k108_118_6 : xCa (xMo 108) 118 6 = some (1, 110, 3) := by decide +kernel
theorem n108_118 : xcn (xMo 108) 118 = some 3 := by decide +kernel
theorem d108_11 : decode prog_6_method_13_code 11 = .ok (.istore_n 2, 1) := by decide +kernel
theorem d108_12 : decode prog_6_method_13_code 12 = .ok (.iconst 0, 1) := by decide +kernel
theorem d108_13 : decode prog_6_method_13_code 13 = .ok (.istore_n 3, 1) := by decide +kernel
theorem d108_14 : decode prog_6_method_13_code 14 = .ok (.iload_n 3, 1) := by decide +kernel
theorem d108_15 : decode prog_6_method_13_code 15 = .ok (.iload_n 2, 1) := by decide +kernel
theorem d108_16 : decode prog_6_method_13_code 16 = .ok (.if_icmp .ge 29, 3) := by decide +kernel
theorem d108_19 : decode prog_6_method_13_code 19 = .ok (.iload_n 3, 1) := by decide +kernel
theorem d108_20 : decode prog_6_method_13_code 20 = .ok (.sipush 200, 3) := by decide +kernel
theorem d108_23 : decode prog_6_method_13_code 23 = .ok (.if_icmp .ge 22, 3) := by decide +kernel
theorem d108_26 : decode prog_6_method_13_code 26 = .ok (.aload_n 0, 1) := by decide +kernel
theorem d108_27 : decode prog_6_method_13_code 27 = .ok (.aload_n 0, 1) := by decide +kernel
theorem d108_28 : decode prog_6_method_13_code 28 = .ok (.getfield 32, 3) := by decide +kernel
theorem f108_32 : xFd (xMo 108) 32 = some (6, 8) := by decide +kernel
theorem d108_31 : decode prog_6_method_13_code 31 = .ok (.iload_n 3, 1) := by decide +kernel
theorem d108_32 : decode prog_6_method_13_code 32 = .ok (.iaload, 1) := by decide +kernel
theorem d108_33 : decode prog_6_method_13_code 33 = .ok (.iconst 1, 1) := by decide +kernel
theorem d108_34 : decode prog_6_method_13_code 34 = .ok (.iload_n 2, 1) := by decide +kernel
theorem d108_35 : decode prog_6_method_13_code 35 = .ok (.invokevirtual 118, 3) := by decide +kernel
theorem d108_38 : decode prog_6_method_13_code 38 = .ok (.istore_n 2, 1) := by decide +kernel
theorem d108_39 : decode prog_6_method_13_code 39 = .ok (.iinc 3 1, 3) := by decide +kernel
theorem d108_42 : decode prog_6_method_13_code 42 = .ok (.goto (-28), 3) := by decide +kernel
theorem d108_45 : decode prog_6_method_13_code 45 = .ok (.return_, 1) := by decide +kernel
set_option maxRecDepth 100000 in
theorem q109 : xMc 109 = prog_6_method_16_code := rfl
theorem m109 : xMl 109 = 2 ∧ xMret 109 = none ∧ xMh 109 = [] := by decide +kernel
theorem e109 {X : xX} {d : Nat} {w : xH} {Q : xO → xH → Prop} (a : Nat) : Cw X d 109 [.ref a] w Q = Wx X d 109 0 [some (.ref a), none] [] w Q := by
  unfold Cw
  rw [m109.1]
  rfl
theorem d109_0 : decode prog_6_method_16_code 0 = .ok (.iconst 0, 1) := by decide +kernel
theorem d109_1 : decode prog_6_method_16_code 1 = .ok (.istore_n 1, 1) := by decide +kernel
theorem d109_2 : decode prog_6_method_16_code 2 = .ok (.iload_n 1, 1) := by decide +kernel
theorem d109_3 : decode prog_6_method_16_code 3 = .ok (.sipush 200, 3) := by decide +kernel
theorem d109_6 : decode prog_6_method_16_code 6 = .ok (.if_icmp .ge 16, 3) := by decide +kernel
theorem d109_9 : decode prog_6_method_16_code 9 = .ok (.aload_n 0, 1) := by decide +kernel
theorem d109_10 : decode prog_6_method_16_code 10 = .ok (.getfield 28, 3) := by decide +kernel
theorem f109_28 : xFd (xMo 109) 28 = some (6, 7) := by decide +kernel
theorem d109_13 : decode prog_6_method_16_code 13 = .ok (.iload_n 1, 1) := by decide +kernel
theorem d109_14 : decode prog_6_method_16_code 14 = .ok (.iconst 0, 1) := by decide +kernel
theorem d109_15 : decode prog_6_method_16_code 15 = .ok (.bastore, 1) := by decide +kernel
theorem d109_16 : decode prog_6_method_16_code 16 = .ok (.iinc 1 1, 3) := by decide +kernel
theorem d109_19 : decode prog_6_method_16_code 19 = .ok (.goto (-17), 3) := by decide +kernel
theorem d109_22 : decode prog_6_method_16_code 22 = .ok (.return_, 1) := by decide +kernel
set_option maxRecDepth 100000 in
theorem q110 : xMc 110 = prog_6_method_15_code := rfl
theorem m110 : xMl 110 = 8 ∧ xMret 110 = (some FieldType.int) ∧ xMh 110 = [] := by decide +kernel
theorem e110 {X : xX} {d : Nat} {w : xH} {Q : xO → xH → Prop} (a : Nat) (x0 : Int32) (x1 : Int32) (x2 : Int32) : Cw X d 110 [.ref a, .int x0, .int x1, .int x2] w Q = Wx X d 110 0 [some (.ref a), some (.int x0), some (.int x1), some (.int x2), none, none, none, none] [] w Q := by
  unfold Cw
  rw [m110.1]
  rfl
theorem d110_0 : decode prog_6_method_15_code 0 = .ok (.iload_n 3, 1) := by decide +kernel
theorem d110_1 : decode prog_6_method_15_code 1 = .ok (.istore 4, 2) := by decide +kernel
theorem d110_3 : decode prog_6_method_15_code 3 = .ok (.iconst 0, 1) := by decide +kernel
theorem d110_4 : decode prog_6_method_15_code 4 = .ok (.istore 5, 2) := by decide +kernel
theorem d110_6 : decode prog_6_method_15_code 6 = .ok (.iload 5, 2) := by decide +kernel
theorem d110_8 : decode prog_6_method_15_code 8 = .ok (.aload_n 0, 1) := by decide +kernel
theorem d110_9 : decode prog_6_method_15_code 9 = .ok (.getfield 38, 3) := by decide +kernel
theorem f110_38 : xFd (xMo 110) 38 = some (6, 2) := by decide +kernel
theorem d110_12 : decode prog_6_method_15_code 12 = .ok (.if_icmp .ge 84, 3) := by decide +kernel
theorem d110_15 : decode prog_6_method_15_code 15 = .ok (.aload_n 0, 1) := by decide +kernel
theorem d110_16 : decode prog_6_method_15_code 16 = .ok (.getfield 15, 3) := by decide +kernel
theorem f110_15 : xFd (xMo 110) 15 = some (6, 1) := by decide +kernel
theorem d110_19 : decode prog_6_method_15_code 19 = .ok (.iload 5, 2) := by decide +kernel
theorem d110_21 : decode prog_6_method_15_code 21 = .ok (.iaload, 1) := by decide +kernel
theorem d110_22 : decode prog_6_method_15_code 22 = .ok (.istore 6, 2) := by decide +kernel
theorem d110_24 : decode prog_6_method_15_code 24 = .ok (.iload_n 2, 1) := by decide +kernel
theorem d110_25 : decode prog_6_method_15_code 25 = .ok (.ifCond .eq 13, 3) := by decide +kernel
theorem d110_28 : decode prog_6_method_15_code 28 = .ok (.aload_n 0, 1) := by decide +kernel
theorem d110_29 : decode prog_6_method_15_code 29 = .ok (.iload 6, 2) := by decide +kernel
theorem d110_31 : decode prog_6_method_15_code 31 = .ok (.iload_n 1, 1) := by decide +kernel
theorem d110_32 : decode prog_6_method_15_code 32 = .ok (.invokevirtual 105, 3) := by decide +kernel
theorem k110_105_6 : xCa (xMo 110) 105 6 = some (1, 106, 2) := by decide +kernel
theorem n110_105 : xcn (xMo 110) 105 = some 2 := by decide +kernel
theorem d110_35 : decode prog_6_method_15_code 35 = .ok (.goto 10, 3) := by decide +kernel
theorem d110_38 : decode prog_6_method_15_code 38 = .ok (.aload_n 0, 1) := by decide +kernel
theorem d110_39 : decode prog_6_method_15_code 39 = .ok (.iload_n 1, 1) := by decide +kernel
theorem d110_40 : decode prog_6_method_15_code 40 = .ok (.iload 6, 2) := by decide +kernel
theorem d110_42 : decode prog_6_method_15_code 42 = .ok (.invokevirtual 105, 3) := by decide +kernel
theorem d110_45 : decode prog_6_method_15_code 45 = .ok (.istore 7, 2) := by decide +kernel
theorem d110_47 : decode prog_6_method_15_code 47 = .ok (.iload 7, 2) := by decide +kernel
theorem d110_49 : decode prog_6_method_15_code 49 = .ok (.ifCond .eq 41, 3) := by decide +kernel
theorem d110_52 : decode prog_6_method_15_code 52 = .ok (.aload_n 0, 1) := by decide +kernel
theorem d110_53 : decode prog_6_method_15_code 53 = .ok (.getfield 28, 3) := by decide +kernel
theorem f110_28 : xFd (xMo 110) 28 = some (6, 7) := by decide +kernel
theorem d110_56 : decode prog_6_method_15_code 56 = .ok (.iload 6, 2) := by decide +kernel
theorem d110_58 : decode prog_6_method_15_code 58 = .ok (.baload, 1) := by decide +kernel
theorem d110_59 : decode prog_6_method_15_code 59 = .ok (.ifCond .ne 31, 3) := by decide +kernel
theorem d110_62 : decode prog_6_method_15_code 62 = .ok (.iload 4, 2) := by decide +kernel
theorem d110_64 : decode prog_6_method_15_code 64 = .ok (.sipush 200, 3) := by decide +kernel
theorem d110_67 : decode prog_6_method_15_code 67 = .ok (.if_icmp .ge 23, 3) := by decide +kernel
theorem d110_70 : decode prog_6_method_15_code 70 = .ok (.aload_n 0, 1) := by decide +kernel
theorem d110_71 : decode prog_6_method_15_code 71 = .ok (.getfield 28, 3) := by decide +kernel
theorem d110_74 : decode prog_6_method_15_code 74 = .ok (.iload 6, 2) := by decide +kernel
theorem d110_76 : decode prog_6_method_15_code 76 = .ok (.iconst 1, 1) := by decide +kernel
theorem d110_77 : decode prog_6_method_15_code 77 = .ok (.bastore, 1) := by decide +kernel
theorem d110_78 : decode prog_6_method_15_code 78 = .ok (.aload_n 0, 1) := by decide +kernel
theorem d110_79 : decode prog_6_method_15_code 79 = .ok (.getfield 32, 3) := by decide +kernel
theorem f110_32 : xFd (xMo 110) 32 = some (6, 8) := by decide +kernel
theorem d110_82 : decode prog_6_method_15_code 82 = .ok (.iload 4, 2) := by decide +kernel
theorem d110_84 : decode prog_6_method_15_code 84 = .ok (.iload 6, 2) := by decide +kernel
theorem d110_86 : decode prog_6_method_15_code 86 = .ok (.iastore, 1) := by decide +kernel
theorem d110_87 : decode prog_6_method_15_code 87 = .ok (.iinc 4 1, 3) := by decide +kernel
theorem d110_90 : decode prog_6_method_15_code 90 = .ok (.iinc 5 1, 3) := by decide +kernel
theorem d110_93 : decode prog_6_method_15_code 93 = .ok (.goto (-87), 3) := by decide +kernel
theorem d110_96 : decode prog_6_method_15_code 96 = .ok (.iload 4, 2) := by decide +kernel
theorem d110_98 : decode prog_6_method_15_code 98 = .ok (.ireturn, 1) := by decide +kernel
set_option maxRecDepth 100000 in
theorem q111 : xMc 111 = prog_6_method_18_code := rfl
theorem m111 : xMl 111 = 3 ∧ xMret 111 = (some FieldType.int) ∧ xMh 111 = [] := by decide +kernel
theorem e111 {X : xX} {d : Nat} {w : xH} {Q : xO → xH → Prop} (a : Nat) : Cw X d 111 [.ref a] w Q = Wx X d 111 0 [some (.ref a), none, none] [] w Q := by
  unfold Cw
  rw [m111.1]
  rfl
theorem d111_0 : decode prog_6_method_18_code 0 = .ok (.iconst 0, 1) := by decide +kernel
theorem d111_1 : decode prog_6_method_18_code 1 = .ok (.istore_n 1, 1) := by decide +kernel
theorem d111_2 : decode prog_6_method_18_code 2 = .ok (.iconst 0, 1) := by decide +kernel
theorem d111_3 : decode prog_6_method_18_code 3 = .ok (.istore_n 2, 1) := by decide +kernel
theorem d111_4 : decode prog_6_method_18_code 4 = .ok (.iload_n 2, 1) := by decide +kernel
theorem d111_5 : decode prog_6_method_18_code 5 = .ok (.aload_n 0, 1) := by decide +kernel
theorem d111_6 : decode prog_6_method_18_code 6 = .ok (.getfield 38, 3) := by decide +kernel
theorem f111_38 : xFd (xMo 111) 38 = some (6, 2) := by decide +kernel
theorem d111_9 : decode prog_6_method_18_code 9 = .ok (.if_icmp .ge 26, 3) := by decide +kernel
theorem d111_12 : decode prog_6_method_18_code 12 = .ok (.aload_n 0, 1) := by decide +kernel
theorem d111_13 : decode prog_6_method_18_code 13 = .ok (.getfield 28, 3) := by decide +kernel
theorem f111_28 : xFd (xMo 111) 28 = some (6, 7) := by decide +kernel
theorem d111_16 : decode prog_6_method_18_code 16 = .ok (.aload_n 0, 1) := by decide +kernel
theorem d111_17 : decode prog_6_method_18_code 17 = .ok (.getfield 15, 3) := by decide +kernel
theorem f111_15 : xFd (xMo 111) 15 = some (6, 1) := by decide +kernel
theorem d111_20 : decode prog_6_method_18_code 20 = .ok (.iload_n 2, 1) := by decide +kernel
theorem d111_21 : decode prog_6_method_18_code 21 = .ok (.iaload, 1) := by decide +kernel
theorem d111_22 : decode prog_6_method_18_code 22 = .ok (.baload, 1) := by decide +kernel
theorem d111_23 : decode prog_6_method_18_code 23 = .ok (.ifCond .eq 6, 3) := by decide +kernel
theorem d111_26 : decode prog_6_method_18_code 26 = .ok (.iinc 1 1, 3) := by decide +kernel
theorem d111_29 : decode prog_6_method_18_code 29 = .ok (.iinc 2 1, 3) := by decide +kernel
theorem d111_32 : decode prog_6_method_18_code 32 = .ok (.goto (-28), 3) := by decide +kernel
theorem d111_35 : decode prog_6_method_18_code 35 = .ok (.iload_n 1, 1) := by decide +kernel
theorem d111_36 : decode prog_6_method_18_code 36 = .ok (.ireturn, 1) := by decide +kernel
set_option maxRecDepth 100000 in
theorem q112 : xMc 112 = prog_6_method_17_code := rfl
theorem m112 : xMl 112 = 2 ∧ xMret 112 = none ∧ xMh 112 = [] := by decide +kernel
theorem e112 {X : xX} {d : Nat} {w : xH} {Q : xO → xH → Prop} (a : Nat) : Cw X d 112 [.ref a] w Q = Wx X d 112 0 [some (.ref a), none] [] w Q := by
  unfold Cw
  rw [m112.1]
  rfl
theorem d112_0 : decode prog_6_method_17_code 0 = .ok (.aload_n 0, 1) := by decide +kernel
theorem d112_1 : decode prog_6_method_17_code 1 = .ok (.invokevirtual 115, 3) := by decide +kernel
theorem k112_115_6 : xCa (xMo 112) 115 6 = some (1, 109, 0) := by decide +kernel
theorem n112_115 : xcn (xMo 112) 115 = some 0 := by decide +kernel
theorem d112_4 : decode prog_6_method_17_code 4 = .ok (.iconst 0, 1) := by decide +kernel
theorem d112_5 : decode prog_6_method_17_code 5 = .ok (.istore_n 1, 1) := by decide +kernel
theorem d112_6 : decode prog_6_method_17_code 6 = .ok (.iload_n 1, 1) := by decide +kernel
theorem d112_7 : decode prog_6_method_17_code 7 = .ok (.aload_n 0, 1) := by decide +kernel
theorem d112_8 : decode prog_6_method_17_code 8 = .ok (.getfield 38, 3) := by decide +kernel
theorem f112_38 : xFd (xMo 112) 38 = some (6, 2) := by decide +kernel
theorem d112_11 : decode prog_6_method_17_code 11 = .ok (.if_icmp .ge 21, 3) := by decide +kernel
theorem d112_14 : decode prog_6_method_17_code 14 = .ok (.aload_n 0, 1) := by decide +kernel
theorem d112_15 : decode prog_6_method_17_code 15 = .ok (.getfield 28, 3) := by decide +kernel
theorem f112_28 : xFd (xMo 112) 28 = some (6, 7) := by decide +kernel
theorem d112_18 : decode prog_6_method_17_code 18 = .ok (.aload_n 0, 1) := by decide +kernel
theorem d112_19 : decode prog_6_method_17_code 19 = .ok (.getfield 15, 3) := by decide +kernel
theorem f112_15 : xFd (xMo 112) 15 = some (6, 1) := by decide +kernel
theorem d112_22 : decode prog_6_method_17_code 22 = .ok (.iload_n 1, 1) := by decide +kernel
theorem d112_23 : decode prog_6_method_17_code 23 = .ok (.iaload, 1) := by decide +kernel
theorem d112_24 : decode prog_6_method_17_code 24 = .ok (.iconst 1, 1) := by decide +kernel
theorem d112_25 : decode prog_6_method_17_code 25 = .ok (.bastore, 1) := by decide +kernel
theorem d112_26 : decode prog_6_method_17_code 26 = .ok (.iinc 1 1, 3) := by decide +kernel
theorem d112_29 : decode prog_6_method_17_code 29 = .ok (.goto (-23), 3) := by decide +kernel
theorem d112_32 : decode prog_6_method_17_code 32 = .ok (.return_, 1) := by decide +kernel
set_option maxRecDepth 100000 in
theorem q113 : xMc 113 = prog_6_method_14_code := rfl
theorem m113 : xMl 113 = 4 ∧ xMret 113 = none ∧ xMh 113 = [] := by decide +kernel
theorem e113 {X : xX} {d : Nat} {w : xH} {Q : xO → xH → Prop} (a : Nat) (x0 : Int32) : Cw X d 113 [.ref a, .int x0] w Q = Wx X d 113 0 [some (.ref a), some (.int x0), none, none] [] w Q := by
  unfold Cw
  rw [m113.1]
  rfl
theorem d113_0 : decode prog_6_method_14_code 0 = .ok (.aload_n 0, 1) := by decide +kernel
theorem d113_1 : decode prog_6_method_14_code 1 = .ok (.invokevirtual 115, 3) := by decide +kernel
theorem k113_115_6 : xCa (xMo 113) 115 6 = some (1, 109, 0) := by decide +kernel
theorem n113_115 : xcn (xMo 113) 115 = some 0 := by decide +kernel
theorem d113_4 : decode prog_6_method_14_code 4 = .ok (.aload_n 0, 1) := by decide +kernel
theorem d113_5 : decode prog_6_method_14_code 5 = .ok (.getfield 28, 3) := by decide +kernel
theorem f113_28 : xFd (xMo 113) 28 = some (6, 7) := by decide +kernel
theorem d113_8 : decode prog_6_method_14_code 8 = .ok (.iload_n 1, 1) := by decide +kernel
theorem d113_9 : decode prog_6_method_14_code 9 = .ok (.iconst 1, 1) := by decide +kernel
theorem d113_10 : decode prog_6_method_14_code 10 = .ok (.bastore, 1) := by decide +kernel
theorem d113_11 : decode prog_6_method_14_code 11 = .ok (.aload_n 0, 1) := by decide +kernel
theorem d113_12 : decode prog_6_method_14_code 12 = .ok (.iload_n 1, 1) := by decide +kernel
theorem d113_13 : decode prog_6_method_14_code 13 = .ok (.iconst 0, 1) := by decide +kernel
theorem d113_14 : decode prog_6_method_14_code 14 = .ok (.iconst 0, 1) := by decide +kernel
theorem d113_15 : decode prog_6_method_14_code 15 = .ok (.invokevirtual 118, 3) := by decide +kernel
theorem k113_118_6 : xCa (xMo 113) 118 6 = some (1, 110, 3) := by decide +kernel
theorem n113_118 : xcn (xMo 113) 118 = some 3 := by decide +kernel
theorem d113_18 : decode prog_6_method_14_code 18 = .ok (.istore_n 2, 1) := by decide +kernel
theorem d113_19 : decode prog_6_method_14_code 19 = .ok (.iconst 0, 1) := by decide +kernel
theorem d113_20 : decode prog_6_method_14_code 20 = .ok (.istore_n 3, 1) := by decide +kernel
theorem d113_21 : decode prog_6_method_14_code 21 = .ok (.iload_n 3, 1) := by decide +kernel
theorem d113_22 : decode prog_6_method_14_code 22 = .ok (.iload_n 2, 1) := by decide +kernel
theorem d113_23 : decode prog_6_method_14_code 23 = .ok (.if_icmp .ge 29, 3) := by decide +kernel
theorem d113_26 : decode prog_6_method_14_code 26 = .ok (.iload_n 3, 1) := by decide +kernel
theorem d113_27 : decode prog_6_method_14_code 27 = .ok (.sipush 200, 3) := by decide +kernel
theorem d113_30 : decode prog_6_method_14_code 30 = .ok (.if_icmp .ge 22, 3) := by decide +kernel
theorem d113_33 : decode prog_6_method_14_code 33 = .ok (.aload_n 0, 1) := by decide +kernel
theorem d113_34 : decode prog_6_method_14_code 34 = .ok (.aload_n 0, 1) := by decide +kernel
theorem d113_35 : decode prog_6_method_14_code 35 = .ok (.getfield 32, 3) := by decide +kernel
theorem f113_32 : xFd (xMo 113) 32 = some (6, 8) := by decide +kernel
theorem d113_38 : decode prog_6_method_14_code 38 = .ok (.iload_n 3, 1) := by decide +kernel
theorem d113_39 : decode prog_6_method_14_code 39 = .ok (.iaload, 1) := by decide +kernel
theorem d113_40 : decode prog_6_method_14_code 40 = .ok (.iconst 0, 1) := by decide +kernel
theorem d113_41 : decode prog_6_method_14_code 41 = .ok (.iload_n 2, 1) := by decide +kernel
theorem d113_42 : decode prog_6_method_14_code 42 = .ok (.invokevirtual 118, 3) := by decide +kernel
theorem d113_45 : decode prog_6_method_14_code 45 = .ok (.istore_n 2, 1) := by decide +kernel
theorem d113_46 : decode prog_6_method_14_code 46 = .ok (.iinc 3 1, 3) := by decide +kernel
theorem d113_49 : decode prog_6_method_14_code 49 = .ok (.goto (-28), 3) := by decide +kernel
theorem d113_52 : decode prog_6_method_14_code 52 = .ok (.return_, 1) := by decide +kernel
set_option maxRecDepth 100000 in
theorem q114 : xMc 114 = prog_6_method_10_code := rfl
theorem m114 : xMl 114 = 4 ∧ xMret 114 = (some FieldType.int) ∧ xMh 114 = [] := by decide +kernel
theorem e114 {X : xX} {d : Nat} {w : xH} {Q : xO → xH → Prop} (a : Nat) (x0 : Int32) : Cw X d 114 [.ref a, .int x0] w Q = Wx X d 114 0 [some (.ref a), some (.int x0), none, none] [] w Q := by
  unfold Cw
  rw [m114.1]
  rfl
theorem d114_0 : decode prog_6_method_10_code 0 = .ok (.iconst 0, 1) := by decide +kernel
theorem d114_1 : decode prog_6_method_10_code 1 = .ok (.istore_n 2, 1) := by decide +kernel
theorem d114_2 : decode prog_6_method_10_code 2 = .ok (.iconst 0, 1) := by decide +kernel
theorem d114_3 : decode prog_6_method_10_code 3 = .ok (.istore_n 3, 1) := by decide +kernel
theorem d114_4 : decode prog_6_method_10_code 4 = .ok (.iload_n 3, 1) := by decide +kernel
theorem d114_5 : decode prog_6_method_10_code 5 = .ok (.iconst 4, 1) := by decide +kernel
theorem d114_6 : decode prog_6_method_10_code 6 = .ok (.if_icmp .ge 25, 3) := by decide +kernel
theorem d114_9 : decode prog_6_method_10_code 9 = .ok (.iload_n 2, 1) := by decide +kernel
theorem d114_10 : decode prog_6_method_10_code 10 = .ok (.aload_n 0, 1) := by decide +kernel
theorem d114_11 : decode prog_6_method_10_code 11 = .ok (.getfield 11, 3) := by decide +kernel
theorem f114_11 : xFd (xMo 114) 11 = some (6, 0) := by decide +kernel
theorem d114_14 : decode prog_6_method_10_code 14 = .ok (.iload_n 1, 1) := by decide +kernel
theorem d114_15 : decode prog_6_method_10_code 15 = .ok (.iconst 4, 1) := by decide +kernel
theorem d114_16 : decode prog_6_method_10_code 16 = .ok (.imul, 1) := by decide +kernel
theorem d114_17 : decode prog_6_method_10_code 17 = .ok (.iload_n 3, 1) := by decide +kernel
theorem d114_18 : decode prog_6_method_10_code 18 = .ok (.iadd, 1) := by decide +kernel
theorem d114_19 : decode prog_6_method_10_code 19 = .ok (.laload, 1) := by decide +kernel
theorem d114_20 : decode prog_6_method_10_code 20 = .ok (.invokestatic 109, 3) := by decide +kernel
theorem k114_109_99 : xCa (xMo 114) 109 99 = some (0, 413, 1) := by decide +kernel
theorem d114_23 : decode prog_6_method_10_code 23 = .ok (.iadd, 1) := by decide +kernel
theorem d114_24 : decode prog_6_method_10_code 24 = .ok (.istore_n 2, 1) := by decide +kernel
theorem d114_25 : decode prog_6_method_10_code 25 = .ok (.iinc 3 1, 3) := by decide +kernel
theorem d114_28 : decode prog_6_method_10_code 28 = .ok (.goto (-24), 3) := by decide +kernel
theorem d114_31 : decode prog_6_method_10_code 31 = .ok (.iload_n 2, 1) := by decide +kernel
theorem d114_32 : decode prog_6_method_10_code 32 = .ok (.ireturn, 1) := by decide +kernel
set_option maxRecDepth 100000 in
theorem q115 : xMc 115 = prog_6_method_11_code := rfl
theorem m115 : xMl 115 = 5 ∧ xMret 115 = (some FieldType.int) ∧ xMh 115 = [] := by decide +kernel
theorem e115 {X : xX} {d : Nat} {w : xH} {Q : xO → xH → Prop} (a : Nat) (x0 : Int32) (x1 : Int32) : Cw X d 115 [.ref a, .int x0, .int x1] w Q = Wx X d 115 0 [some (.ref a), some (.int x0), some (.int x1), none, none] [] w Q := by
  unfold Cw
  rw [m115.1]
  rfl
theorem d115_0 : decode prog_6_method_11_code 0 = .ok (.iconst 0, 1) := by decide +kernel
theorem d115_1 : decode prog_6_method_11_code 1 = .ok (.istore_n 3, 1) := by decide +kernel
theorem d115_2 : decode prog_6_method_11_code 2 = .ok (.iconst 0, 1) := by decide +kernel
theorem d115_3 : decode prog_6_method_11_code 3 = .ok (.istore 4, 2) := by decide +kernel
theorem d115_5 : decode prog_6_method_11_code 5 = .ok (.iload 4, 2) := by decide +kernel
theorem d115_7 : decode prog_6_method_11_code 7 = .ok (.sipush 200, 3) := by decide +kernel
theorem d115_10 : decode prog_6_method_11_code 10 = .ok (.if_icmp .ge 30, 3) := by decide +kernel
theorem d115_13 : decode prog_6_method_11_code 13 = .ok (.aload_n 0, 1) := by decide +kernel
theorem d115_14 : decode prog_6_method_11_code 14 = .ok (.iload_n 1, 1) := by decide +kernel
theorem d115_15 : decode prog_6_method_11_code 15 = .ok (.iload 4, 2) := by decide +kernel
theorem d115_17 : decode prog_6_method_11_code 17 = .ok (.invokevirtual 105, 3) := by decide +kernel
theorem k115_105_6 : xCa (xMo 115) 105 6 = some (1, 106, 2) := by decide +kernel
theorem n115_105 : xcn (xMo 115) 105 = some 2 := by decide +kernel
theorem d115_20 : decode prog_6_method_11_code 20 = .ok (.ifCond .eq 14, 3) := by decide +kernel
theorem d115_23 : decode prog_6_method_11_code 23 = .ok (.iload_n 3, 1) := by decide +kernel
theorem d115_24 : decode prog_6_method_11_code 24 = .ok (.iload_n 2, 1) := by decide +kernel
theorem d115_25 : decode prog_6_method_11_code 25 = .ok (.if_icmp .ne 6, 3) := by decide +kernel
theorem d115_28 : decode prog_6_method_11_code 28 = .ok (.iload 4, 2) := by decide +kernel
theorem d115_30 : decode prog_6_method_11_code 30 = .ok (.ireturn, 1) := by decide +kernel
theorem d115_31 : decode prog_6_method_11_code 31 = .ok (.iinc 3 1, 3) := by decide +kernel
theorem d115_34 : decode prog_6_method_11_code 34 = .ok (.iinc 4 1, 3) := by decide +kernel
theorem d115_37 : decode prog_6_method_11_code 37 = .ok (.goto (-32), 3) := by decide +kernel
theorem d115_40 : decode prog_6_method_11_code 40 = .ok (.iconst (-1), 1) := by decide +kernel
theorem d115_41 : decode prog_6_method_11_code 41 = .ok (.ireturn, 1) := by decide +kernel
set_option maxRecDepth 100000 in
theorem q116 : xMc 116 = prog_6_method_12_code := rfl
theorem m116 : xMl 116 = 4 ∧ xMret 116 = (some FieldType.int) ∧ xMh 116 = [] := by decide +kernel
theorem e116 {X : xX} {d : Nat} {w : xH} {Q : xO → xH → Prop} (a : Nat) (x0 : Int32) : Cw X d 116 [.ref a, .int x0] w Q = Wx X d 116 0 [some (.ref a), some (.int x0), none, none] [] w Q := by
  unfold Cw
  rw [m116.1]
  rfl
theorem d116_0 : decode prog_6_method_12_code 0 = .ok (.iconst 0, 1) := by decide +kernel
theorem d116_1 : decode prog_6_method_12_code 1 = .ok (.istore_n 2, 1) := by decide +kernel
theorem d116_2 : decode prog_6_method_12_code 2 = .ok (.iconst 0, 1) := by decide +kernel
theorem d116_3 : decode prog_6_method_12_code 3 = .ok (.istore_n 3, 1) := by decide +kernel
theorem d116_4 : decode prog_6_method_12_code 4 = .ok (.iload_n 3, 1) := by decide +kernel
theorem d116_5 : decode prog_6_method_12_code 5 = .ok (.aload_n 0, 1) := by decide +kernel
theorem d116_6 : decode prog_6_method_12_code 6 = .ok (.getfield 38, 3) := by decide +kernel
theorem f116_38 : xFd (xMo 116) 38 = some (6, 2) := by decide +kernel
theorem d116_9 : decode prog_6_method_12_code 9 = .ok (.if_icmp .ge 26, 3) := by decide +kernel
theorem d116_12 : decode prog_6_method_12_code 12 = .ok (.aload_n 0, 1) := by decide +kernel
theorem d116_13 : decode prog_6_method_12_code 13 = .ok (.aload_n 0, 1) := by decide +kernel
theorem d116_14 : decode prog_6_method_12_code 14 = .ok (.getfield 15, 3) := by decide +kernel
theorem f116_15 : xFd (xMo 116) 15 = some (6, 1) := by decide +kernel
theorem d116_17 : decode prog_6_method_12_code 17 = .ok (.iload_n 3, 1) := by decide +kernel
theorem d116_18 : decode prog_6_method_12_code 18 = .ok (.iaload, 1) := by decide +kernel
theorem d116_19 : decode prog_6_method_12_code 19 = .ok (.iload_n 1, 1) := by decide +kernel
theorem d116_20 : decode prog_6_method_12_code 20 = .ok (.invokevirtual 105, 3) := by decide +kernel
theorem k116_105_6 : xCa (xMo 116) 105 6 = some (1, 106, 2) := by decide +kernel
theorem n116_105 : xcn (xMo 116) 105 = some 2 := by decide +kernel
theorem d116_23 : decode prog_6_method_12_code 23 = .ok (.ifCond .eq 6, 3) := by decide +kernel
theorem d116_26 : decode prog_6_method_12_code 26 = .ok (.iinc 2 1, 3) := by decide +kernel
theorem d116_29 : decode prog_6_method_12_code 29 = .ok (.iinc 3 1, 3) := by decide +kernel
theorem d116_32 : decode prog_6_method_12_code 32 = .ok (.goto (-28), 3) := by decide +kernel
theorem d116_35 : decode prog_6_method_12_code 35 = .ok (.iload_n 2, 1) := by decide +kernel
theorem d116_36 : decode prog_6_method_12_code 36 = .ok (.ireturn, 1) := by decide +kernel
set_option maxRecDepth 100000 in
theorem q117 : xMc 117 = prog_6_method_19_code := rfl
theorem m117 : xMl 117 = 5 ∧ xMret 117 = (some FieldType.int) ∧ xMh 117 = [] := by decide +kernel
theorem e117 {X : xX} {d : Nat} {w : xH} {Q : xO → xH → Prop} (a : Nat) (x0 : Int32) : Cw X d 117 [.ref a, .int x0] w Q = Wx X d 117 0 [some (.ref a), some (.int x0), none, none, none] [] w Q := by
  unfold Cw
  rw [m117.1]
  rfl
theorem d117_0 : decode prog_6_method_19_code 0 = .ok (.aload_n 0, 1) := by decide +kernel
theorem d117_1 : decode prog_6_method_19_code 1 = .ok (.getfield 22, 3) := by decide +kernel
theorem f117_22 : xFd (xMo 117) 22 = some (6, 5) := by decide +kernel
theorem d117_4 : decode prog_6_method_19_code 4 = .ok (.iload_n 1, 1) := by decide +kernel
theorem d117_5 : decode prog_6_method_19_code 5 = .ok (.iaload, 1) := by decide +kernel
theorem d117_6 : decode prog_6_method_19_code 6 = .ok (.ifCond .ge 5, 3) := by decide +kernel
theorem d117_9 : decode prog_6_method_19_code 9 = .ok (.iconst 0, 1) := by decide +kernel
theorem d117_10 : decode prog_6_method_19_code 10 = .ok (.ireturn, 1) := by decide +kernel
theorem d117_11 : decode prog_6_method_19_code 11 = .ok (.iconst 0, 1) := by decide +kernel
theorem d117_12 : decode prog_6_method_19_code 12 = .ok (.istore_n 2, 1) := by decide +kernel
theorem d117_13 : decode prog_6_method_19_code 13 = .ok (.iload_n 2, 1) := by decide +kernel
theorem d117_14 : decode prog_6_method_19_code 14 = .ok (.aload_n 0, 1) := by decide +kernel
theorem d117_15 : decode prog_6_method_19_code 15 = .ok (.getfield 95, 3) := by decide +kernel
theorem f117_95 : xFd (xMo 117) 95 = some (6, 4) := by decide +kernel
theorem d117_18 : decode prog_6_method_19_code 18 = .ok (.if_icmp .ge 77, 3) := by decide +kernel
theorem d117_21 : decode prog_6_method_19_code 21 = .ok (.iconst 0, 1) := by decide +kernel
theorem d117_22 : decode prog_6_method_19_code 22 = .ok (.istore_n 3, 1) := by decide +kernel
theorem d117_23 : decode prog_6_method_19_code 23 = .ok (.iconst 0, 1) := by decide +kernel
theorem d117_24 : decode prog_6_method_19_code 24 = .ok (.istore 4, 2) := by decide +kernel
theorem d117_26 : decode prog_6_method_19_code 26 = .ok (.iload 4, 2) := by decide +kernel
theorem d117_28 : decode prog_6_method_19_code 28 = .ok (.iload_n 2, 1) := by decide +kernel
theorem d117_29 : decode prog_6_method_19_code 29 = .ok (.if_icmp .ge 46, 3) := by decide +kernel
theorem d117_32 : decode prog_6_method_19_code 32 = .ok (.aload_n 0, 1) := by decide +kernel
theorem d117_33 : decode prog_6_method_19_code 33 = .ok (.aload_n 0, 1) := by decide +kernel
theorem d117_34 : decode prog_6_method_19_code 34 = .ok (.getfield 19, 3) := by decide +kernel
theorem f117_19 : xFd (xMo 117) 19 = some (6, 3) := by decide +kernel
theorem d117_37 : decode prog_6_method_19_code 37 = .ok (.iload_n 2, 1) := by decide +kernel
theorem d117_38 : decode prog_6_method_19_code 38 = .ok (.iaload, 1) := by decide +kernel
theorem d117_39 : decode prog_6_method_19_code 39 = .ok (.aload_n 0, 1) := by decide +kernel
theorem d117_40 : decode prog_6_method_19_code 40 = .ok (.getfield 19, 3) := by decide +kernel
theorem d117_43 : decode prog_6_method_19_code 43 = .ok (.iload 4, 2) := by decide +kernel
theorem d117_45 : decode prog_6_method_19_code 45 = .ok (.iaload, 1) := by decide +kernel
theorem d117_46 : decode prog_6_method_19_code 46 = .ok (.invokevirtual 105, 3) := by decide +kernel
theorem k117_105_6 : xCa (xMo 117) 105 6 = some (1, 106, 2) := by decide +kernel
theorem n117_105 : xcn (xMo 117) 105 = some 2 := by decide +kernel
theorem d117_49 : decode prog_6_method_19_code 49 = .ok (.ifCond .eq 20, 3) := by decide +kernel
theorem d117_52 : decode prog_6_method_19_code 52 = .ok (.iload_n 3, 1) := by decide +kernel
theorem d117_53 : decode prog_6_method_19_code 53 = .ok (.aload_n 0, 1) := by decide +kernel
theorem d117_54 : decode prog_6_method_19_code 54 = .ok (.getfield 35, 3) := by decide +kernel
theorem f117_35 : xFd (xMo 117) 35 = some (6, 9) := by decide +kernel
theorem d117_57 : decode prog_6_method_19_code 57 = .ok (.aload_n 0, 1) := by decide +kernel
theorem d117_58 : decode prog_6_method_19_code 58 = .ok (.getfield 19, 3) := by decide +kernel
theorem d117_61 : decode prog_6_method_19_code 61 = .ok (.iload 4, 2) := by decide +kernel
theorem d117_63 : decode prog_6_method_19_code 63 = .ok (.iaload, 1) := by decide +kernel
theorem d117_64 : decode prog_6_method_19_code 64 = .ok (.iaload, 1) := by decide +kernel
theorem d117_65 : decode prog_6_method_19_code 65 = .ok (.invokestatic 86, 3) := by decide +kernel
theorem k117_86_99 : xCa (xMo 117) 86 99 = some (0, 410, 2) := by decide +kernel
theorem d117_68 : decode prog_6_method_19_code 68 = .ok (.istore_n 3, 1) := by decide +kernel
theorem d117_69 : decode prog_6_method_19_code 69 = .ok (.iinc 4 1, 3) := by decide +kernel
theorem d117_72 : decode prog_6_method_19_code 72 = .ok (.goto (-46), 3) := by decide +kernel
theorem d117_75 : decode prog_6_method_19_code 75 = .ok (.aload_n 0, 1) := by decide +kernel
theorem d117_76 : decode prog_6_method_19_code 76 = .ok (.getfield 35, 3) := by decide +kernel
theorem d117_79 : decode prog_6_method_19_code 79 = .ok (.aload_n 0, 1) := by decide +kernel
theorem d117_80 : decode prog_6_method_19_code 80 = .ok (.getfield 19, 3) := by decide +kernel
theorem d117_83 : decode prog_6_method_19_code 83 = .ok (.iload_n 2, 1) := by decide +kernel
theorem d117_84 : decode prog_6_method_19_code 84 = .ok (.iaload, 1) := by decide +kernel
theorem d117_85 : decode prog_6_method_19_code 85 = .ok (.iload_n 3, 1) := by decide +kernel
theorem d117_86 : decode prog_6_method_19_code 86 = .ok (.iconst 1, 1) := by decide +kernel
theorem d117_87 : decode prog_6_method_19_code 87 = .ok (.iadd, 1) := by decide +kernel
theorem d117_88 : decode prog_6_method_19_code 88 = .ok (.iastore, 1) := by decide +kernel
theorem d117_89 : decode prog_6_method_19_code 89 = .ok (.iinc 2 1, 3) := by decide +kernel
theorem d117_92 : decode prog_6_method_19_code 92 = .ok (.goto (-79), 3) := by decide +kernel
theorem d117_95 : decode prog_6_method_19_code 95 = .ok (.aload_n 0, 1) := by decide +kernel
theorem d117_96 : decode prog_6_method_19_code 96 = .ok (.getfield 35, 3) := by decide +kernel
theorem d117_99 : decode prog_6_method_19_code 99 = .ok (.iload_n 1, 1) := by decide +kernel
theorem d117_100 : decode prog_6_method_19_code 100 = .ok (.iaload, 1) := by decide +kernel
theorem d117_101 : decode prog_6_method_19_code 101 = .ok (.ireturn, 1) := by decide +kernel
set_option maxRecDepth 100000 in
theorem q121 : xMc 121 = prog_8_method_1_code := rfl
theorem m121 : xMl 121 = 1 ∧ xMret 121 = none ∧ xMh 121 = [] := by decide +kernel
theorem e121 {X : xX} {d : Nat} {w : xH} {Q : xO → xH → Prop} (a : Nat) : Cw X d 121 [.ref a] w Q = Wx X d 121 0 [some (.ref a)] [] w Q := by
  unfold Cw
  rw [m121.1]
  rfl
theorem d121_0 : decode prog_8_method_1_code 0 = .ok (.aload_n 0, 1) := by decide +kernel
theorem d121_1 : decode prog_8_method_1_code 1 = .ok (.invokespecial 3, 3) := by decide +kernel
theorem d121_4 : decode prog_8_method_1_code 4 = .ok (.aload_n 0, 1) := by decide +kernel
theorem d121_5 : decode prog_8_method_1_code 5 = .ok (.bipush 60, 2) := by decide +kernel
theorem d121_7 : decode prog_8_method_1_code 7 = .ok (.newarray .char, 2) := by decide +kernel
theorem d121_9 : decode prog_8_method_1_code 9 = .ok (.putfield 9, 3) := by decide +kernel
theorem f121_9 : xFd (xMo 121) 9 = some (8, 0) := by decide +kernel
theorem d121_12 : decode prog_8_method_1_code 12 = .ok (.aload_n 0, 1) := by decide +kernel
theorem d121_13 : decode prog_8_method_1_code 13 = .ok (.bipush 60, 2) := by decide +kernel
theorem d121_15 : decode prog_8_method_1_code 15 = .ok (.newarray .int, 2) := by decide +kernel
theorem d121_17 : decode prog_8_method_1_code 17 = .ok (.putfield 15, 3) := by decide +kernel
theorem f121_15 : xFd (xMo 121) 15 = some (8, 5) := by decide +kernel
theorem d121_20 : decode prog_8_method_1_code 20 = .ok (.aload_n 0, 1) := by decide +kernel
theorem d121_21 : decode prog_8_method_1_code 21 = .ok (.bipush 61, 2) := by decide +kernel
theorem d121_23 : decode prog_8_method_1_code 23 = .ok (.newarray .int, 2) := by decide +kernel
theorem d121_25 : decode prog_8_method_1_code 25 = .ok (.putfield 19, 3) := by decide +kernel
theorem f121_19 : xFd (xMo 121) 19 = some (8, 9) := by decide +kernel
theorem d121_28 : decode prog_8_method_1_code 28 = .ok (.aload_n 0, 1) := by decide +kernel
theorem d121_29 : decode prog_8_method_1_code 29 = .ok (.bipush 61, 2) := by decide +kernel
theorem d121_31 : decode prog_8_method_1_code 31 = .ok (.newarray .int, 2) := by decide +kernel
theorem d121_33 : decode prog_8_method_1_code 33 = .ok (.putfield 22, 3) := by decide +kernel
theorem f121_22 : xFd (xMo 121) 22 = some (8, 10) := by decide +kernel
theorem d121_36 : decode prog_8_method_1_code 36 = .ok (.aload_n 0, 1) := by decide +kernel
theorem d121_37 : decode prog_8_method_1_code 37 = .ok (.bipush 61, 2) := by decide +kernel
theorem d121_39 : decode prog_8_method_1_code 39 = .ok (.newarray .boolean, 2) := by decide +kernel
theorem d121_41 : decode prog_8_method_1_code 41 = .ok (.putfield 25, 3) := by decide +kernel
theorem f121_25 : xFd (xMo 121) 25 = some (8, 11) := by decide +kernel
theorem d121_44 : decode prog_8_method_1_code 44 = .ok (.return_, 1) := by decide +kernel
set_option maxRecDepth 100000 in
theorem q122 : xMc 122 = prog_8_method_4_code := rfl
theorem m122 : xMl 122 = 1 ∧ xMret 122 = (some FieldType.int) ∧ xMh 122 = [] := by decide +kernel
theorem e122 {X : xX} {d : Nat} {w : xH} {Q : xO → xH → Prop} (a : Nat) : Cw X d 122 [.ref a] w Q = Wx X d 122 0 [some (.ref a)] [] w Q := by
  unfold Cw
  rw [m122.1]
  rfl
theorem d122_0 : decode prog_8_method_4_code 0 = .ok (.aload_n 0, 1) := by decide +kernel
theorem d122_1 : decode prog_8_method_4_code 1 = .ok (.invokevirtual 36, 3) := by decide +kernel
theorem k122_36_8 : xCa (xMo 122) 36 8 = some (1, 123, 0) := by decide +kernel
theorem n122_36 : xcn (xMo 122) 36 = some 0 := by decide +kernel
theorem d122_4 : decode prog_8_method_4_code 4 = .ok (.aload_n 0, 1) := by decide +kernel
theorem d122_5 : decode prog_8_method_4_code 5 = .ok (.iconst 0, 1) := by decide +kernel
theorem d122_6 : decode prog_8_method_4_code 6 = .ok (.invokevirtual 39, 3) := by decide +kernel
theorem k122_39_8 : xCa (xMo 122) 39 8 = some (1, 124, 1) := by decide +kernel
theorem n122_39 : xcn (xMo 122) 39 = some 1 := by decide +kernel
theorem d122_9 : decode prog_8_method_4_code 9 = .ok (.ifCond .eq 7, 3) := by decide +kernel
theorem d122_12 : decode prog_8_method_4_code 12 = .ok (.iconst (-1), 1) := by decide +kernel
theorem d122_13 : decode prog_8_method_4_code 13 = .ok (.goto 7, 3) := by decide +kernel
theorem d122_16 : decode prog_8_method_4_code 16 = .ok (.aload_n 0, 1) := by decide +kernel
theorem d122_17 : decode prog_8_method_4_code 17 = .ok (.getfield 33, 3) := by decide +kernel
theorem f122_33 : xFd (xMo 122) 33 = some (8, 7) := by decide +kernel
theorem d122_20 : decode prog_8_method_4_code 20 = .ok (.ireturn, 1) := by decide +kernel
set_option maxRecDepth 100000 in
theorem q123 : xMc 123 = prog_8_method_3_code := rfl
theorem m123 : xMl 123 = 1 ∧ xMret 123 = none ∧ xMh 123 = [] := by decide +kernel
theorem e123 {X : xX} {d : Nat} {w : xH} {Q : xO → xH → Prop} (a : Nat) : Cw X d 123 [.ref a] w Q = Wx X d 123 0 [some (.ref a)] [] w Q := by
  unfold Cw
  rw [m123.1]
  rfl
theorem d123_0 : decode prog_8_method_3_code 0 = .ok (.aload_n 0, 1) := by decide +kernel
theorem d123_1 : decode prog_8_method_3_code 1 = .ok (.iconst 0, 1) := by decide +kernel
theorem d123_2 : decode prog_8_method_3_code 2 = .ok (.putfield 33, 3) := by decide +kernel
theorem f123_33 : xFd (xMo 123) 33 = some (8, 7) := by decide +kernel
theorem d123_5 : decode prog_8_method_3_code 5 = .ok (.return_, 1) := by decide +kernel
set_option maxRecDepth 100000 in
theorem q124 : xMc 124 = prog_8_method_7_code := rfl
theorem m124 : xMl 124 = 4 ∧ xMret 124 = (some FieldType.boolean) ∧ xMh 124 = [] := by decide +kernel
theorem e124 {X : xX} {d : Nat} {w : xH} {Q : xO → xH → Prop} (a : Nat) (x0 : Int32) : Cw X d 124 [.ref a, .int x0] w Q = Wx X d 124 0 [some (.ref a), some (.int x0), none, none] [] w Q := by
  unfold Cw
  rw [m124.1]
  rfl
theorem d124_0 : decode prog_8_method_7_code 0 = .ok (.aload_n 0, 1) := by decide +kernel
theorem d124_1 : decode prog_8_method_7_code 1 = .ok (.invokevirtual 58, 3) := by decide +kernel
theorem k124_58_8 : xCa (xMo 124) 58 8 = some (1, 125, 0) := by decide +kernel
theorem n124_58 : xcn (xMo 124) 58 = some 0 := by decide +kernel
theorem d124_4 : decode prog_8_method_7_code 4 = .ok (.aload_n 0, 1) := by decide +kernel
theorem d124_5 : decode prog_8_method_7_code 5 = .ok (.invokevirtual 54, 3) := by decide +kernel
theorem k124_54_8 : xCa (xMo 124) 54 8 = some (1, 126, 0) := by decide +kernel
theorem n124_54 : xcn (xMo 124) 54 = some 0 := by decide +kernel
theorem d124_8 : decode prog_8_method_7_code 8 = .ok (.bipush 61, 2) := by decide +kernel
theorem d124_10 : decode prog_8_method_7_code 10 = .ok (.if_icmp .eq 9, 3) := by decide +kernel
theorem d124_13 : decode prog_8_method_7_code 13 = .ok (.aload_n 0, 1) := by decide +kernel
theorem d124_14 : decode prog_8_method_7_code 14 = .ok (.iload_n 1, 1) := by decide +kernel
theorem d124_15 : decode prog_8_method_7_code 15 = .ok (.invokevirtual 61, 3) := by decide +kernel
theorem k124_61_8 : xCa (xMo 124) 61 8 = some (1, 127, 1) := by decide +kernel
theorem n124_61 : xcn (xMo 124) 61 = some 1 := by decide +kernel
theorem d124_18 : decode prog_8_method_7_code 18 = .ok (.ireturn, 1) := by decide +kernel
theorem d124_19 : decode prog_8_method_7_code 19 = .ok (.aload_n 0, 1) := by decide +kernel
theorem d124_20 : decode prog_8_method_7_code 20 = .ok (.iconst 2, 1) := by decide +kernel
theorem d124_21 : decode prog_8_method_7_code 21 = .ok (.putfield 64, 3) := by decide +kernel
theorem f124_64 : xFd (xMo 124) 64 = some (8, 3) := by decide +kernel
theorem d124_24 : decode prog_8_method_7_code 24 = .ok (.aload_n 0, 1) := by decide +kernel
theorem d124_25 : decode prog_8_method_7_code 25 = .ok (.dup, 1) := by decide +kernel
theorem d124_26 : decode prog_8_method_7_code 26 = .ok (.getfield 33, 3) := by decide +kernel
theorem f124_33 : xFd (xMo 124) 33 = some (8, 7) := by decide +kernel
theorem d124_29 : decode prog_8_method_7_code 29 = .ok (.iconst 1, 1) := by decide +kernel
theorem d124_30 : decode prog_8_method_7_code 30 = .ok (.iadd, 1) := by decide +kernel
theorem d124_31 : decode prog_8_method_7_code 31 = .ok (.putfield 33, 3) := by decide +kernel
theorem d124_34 : decode prog_8_method_7_code 34 = .ok (.iconst 0, 1) := by decide +kernel
theorem d124_35 : decode prog_8_method_7_code 35 = .ok (.istore_n 2, 1) := by decide +kernel
theorem d124_36 : decode prog_8_method_7_code 36 = .ok (.iload_n 2, 1) := by decide +kernel
theorem d124_37 : decode prog_8_method_7_code 37 = .ok (.bipush 60, 2) := by decide +kernel
theorem d124_39 : decode prog_8_method_7_code 39 = .ok (.if_icmp .gt 85, 3) := by decide +kernel
theorem d124_42 : decode prog_8_method_7_code 42 = .ok (.aload_n 0, 1) := by decide +kernel
theorem d124_43 : decode prog_8_method_7_code 43 = .ok (.getfield 67, 3) := by decide +kernel
theorem f124_67 : xFd (xMo 124) 67 = some (8, 8) := by decide +kernel
theorem d124_46 : decode prog_8_method_7_code 46 = .ok (.ifCond .eq 11, 3) := by decide +kernel
theorem d124_49 : decode prog_8_method_7_code 49 = .ok (.aload_n 0, 1) := by decide +kernel
theorem d124_50 : decode prog_8_method_7_code 50 = .ok (.getfield 67, 3) := by decide +kernel
theorem d124_53 : decode prog_8_method_7_code 53 = .ok (.iconst 1, 1) := by decide +kernel
theorem d124_54 : decode prog_8_method_7_code 54 = .ok (.if_icmp .ne 11, 3) := by decide +kernel
theorem d124_57 : decode prog_8_method_7_code 57 = .ok (.aload_n 0, 1) := by decide +kernel
theorem d124_58 : decode prog_8_method_7_code 58 = .ok (.invokevirtual 70, 3) := by decide +kernel
theorem k124_70_8 : xCa (xMo 124) 70 8 = some (1, 130, 0) := by decide +kernel
theorem n124_70 : xcn (xMo 124) 70 = some 0 := by decide +kernel
theorem d124_61 : decode prog_8_method_7_code 61 = .ok (.istore_n 3, 1) := by decide +kernel
theorem d124_62 : decode prog_8_method_7_code 62 = .ok (.goto 50, 3) := by decide +kernel
theorem d124_65 : decode prog_8_method_7_code 65 = .ok (.aload_n 0, 1) := by decide +kernel
theorem d124_66 : decode prog_8_method_7_code 66 = .ok (.getfield 73, 3) := by decide +kernel
theorem f124_73 : xFd (xMo 124) 73 = some (8, 12) := by decide +kernel
theorem d124_69 : decode prog_8_method_7_code 69 = .ok (.ifCond .ne 13, 3) := by decide +kernel
theorem d124_72 : decode prog_8_method_7_code 72 = .ok (.aload_n 0, 1) := by decide +kernel
theorem d124_73 : decode prog_8_method_7_code 73 = .ok (.invokevirtual 54, 3) := by decide +kernel
theorem d124_76 : decode prog_8_method_7_code 76 = .ok (.iload_n 1, 1) := by decide +kernel
theorem d124_77 : decode prog_8_method_7_code 77 = .ok (.if_icmp .ne 5, 3) := by decide +kernel
theorem d124_80 : decode prog_8_method_7_code 80 = .ok (.iconst 1, 1) := by decide +kernel
theorem d124_81 : decode prog_8_method_7_code 81 = .ok (.ireturn, 1) := by decide +kernel
theorem d124_82 : decode prog_8_method_7_code 82 = .ok (.aload_n 0, 1) := by decide +kernel
theorem d124_83 : decode prog_8_method_7_code 83 = .ok (.getfield 67, 3) := by decide +kernel
theorem d124_86 : decode prog_8_method_7_code 86 = .ok (.iconst 3, 1) := by decide +kernel
theorem d124_87 : decode prog_8_method_7_code 87 = .ok (.if_icmp .ne 20, 3) := by decide +kernel
theorem d124_90 : decode prog_8_method_7_code 90 = .ok (.aload_n 0, 1) := by decide +kernel
theorem d124_91 : decode prog_8_method_7_code 91 = .ok (.invokevirtual 54, 3) := by decide +kernel
theorem d124_94 : decode prog_8_method_7_code 94 = .ok (.bipush 58, 2) := by decide +kernel
theorem d124_96 : decode prog_8_method_7_code 96 = .ok (.if_icmp .ne 11, 3) := by decide +kernel
theorem d124_99 : decode prog_8_method_7_code 99 = .ok (.aload_n 0, 1) := by decide +kernel
theorem d124_100 : decode prog_8_method_7_code 100 = .ok (.invokevirtual 76, 3) := by decide +kernel
theorem k124_76_8 : xCa (xMo 124) 76 8 = some (1, 138, 0) := by decide +kernel
theorem n124_76 : xcn (xMo 124) 76 = some 0 := by decide +kernel
theorem d124_103 : decode prog_8_method_7_code 103 = .ok (.istore_n 3, 1) := by decide +kernel
theorem d124_104 : decode prog_8_method_7_code 104 = .ok (.goto 8, 3) := by decide +kernel
theorem d124_107 : decode prog_8_method_7_code 107 = .ok (.aload_n 0, 1) := by decide +kernel
theorem d124_108 : decode prog_8_method_7_code 108 = .ok (.invokevirtual 79, 3) := by decide +kernel
theorem k124_79_8 : xCa (xMo 124) 79 8 = some (1, 139, 0) := by decide +kernel
theorem n124_79 : xcn (xMo 124) 79 = some 0 := by decide +kernel
theorem d124_111 : decode prog_8_method_7_code 111 = .ok (.istore_n 3, 1) := by decide +kernel
theorem d124_112 : decode prog_8_method_7_code 112 = .ok (.iload_n 3, 1) := by decide +kernel
theorem d124_113 : decode prog_8_method_7_code 113 = .ok (.ifCond .ne 5, 3) := by decide +kernel
theorem d124_116 : decode prog_8_method_7_code 116 = .ok (.iconst 0, 1) := by decide +kernel
theorem d124_117 : decode prog_8_method_7_code 117 = .ok (.ireturn, 1) := by decide +kernel
theorem d124_118 : decode prog_8_method_7_code 118 = .ok (.iinc 2 1, 3) := by decide +kernel
theorem d124_121 : decode prog_8_method_7_code 121 = .ok (.goto (-85), 3) := by decide +kernel
theorem d124_124 : decode prog_8_method_7_code 124 = .ok (.iconst 0, 1) := by decide +kernel
theorem d124_125 : decode prog_8_method_7_code 125 = .ok (.ireturn, 1) := by decide +kernel
set_option maxRecDepth 100000 in
theorem q125 : xMc 125 = prog_8_method_8_code := rfl
theorem m125 : xMl 125 = 1 ∧ xMret 125 = none ∧ xMh 125 = [] := by decide +kernel
theorem e125 {X : xX} {d : Nat} {w : xH} {Q : xO → xH → Prop} (a : Nat) : Cw X d 125 [.ref a] w Q = Wx X d 125 0 [some (.ref a)] [] w Q := by
  unfold Cw
  rw [m125.1]
  rfl
theorem d125_0 : decode prog_8_method_8_code 0 = .ok (.aload_n 0, 1) := by decide +kernel
theorem d125_1 : decode prog_8_method_8_code 1 = .ok (.iconst 0, 1) := by decide +kernel
theorem d125_2 : decode prog_8_method_8_code 2 = .ok (.putfield 82, 3) := by decide +kernel
theorem f125_82 : xFd (xMo 125) 82 = some (8, 6) := by decide +kernel
theorem d125_5 : decode prog_8_method_8_code 5 = .ok (.aload_n 0, 1) := by decide +kernel
theorem d125_6 : decode prog_8_method_8_code 6 = .ok (.iconst 0, 1) := by decide +kernel
theorem d125_7 : decode prog_8_method_8_code 7 = .ok (.putfield 85, 3) := by decide +kernel
theorem f125_85 : xFd (xMo 125) 85 = some (8, 4) := by decide +kernel
theorem d125_10 : decode prog_8_method_8_code 10 = .ok (.aload_n 0, 1) := by decide +kernel
theorem d125_11 : decode prog_8_method_8_code 11 = .ok (.iconst 0, 1) := by decide +kernel
theorem d125_12 : decode prog_8_method_8_code 12 = .ok (.putfield 73, 3) := by decide +kernel
theorem f125_73 : xFd (xMo 125) 73 = some (8, 12) := by decide +kernel
theorem d125_15 : decode prog_8_method_8_code 15 = .ok (.aload_n 0, 1) := by decide +kernel
theorem d125_16 : decode prog_8_method_8_code 16 = .ok (.getfield 19, 3) := by decide +kernel
theorem f125_19 : xFd (xMo 125) 19 = some (8, 9) := by decide +kernel
theorem d125_19 : decode prog_8_method_8_code 19 = .ok (.iconst 0, 1) := by decide +kernel
theorem d125_20 : decode prog_8_method_8_code 20 = .ok (.bipush 7, 2) := by decide +kernel
theorem d125_22 : decode prog_8_method_8_code 22 = .ok (.iastore, 1) := by decide +kernel
theorem d125_23 : decode prog_8_method_8_code 23 = .ok (.aload_n 0, 1) := by decide +kernel
theorem d125_24 : decode prog_8_method_8_code 24 = .ok (.getfield 25, 3) := by decide +kernel
theorem f125_25 : xFd (xMo 125) 25 = some (8, 11) := by decide +kernel
theorem d125_27 : decode prog_8_method_8_code 27 = .ok (.iconst 0, 1) := by decide +kernel
theorem d125_28 : decode prog_8_method_8_code 28 = .ok (.iconst 0, 1) := by decide +kernel
theorem d125_29 : decode prog_8_method_8_code 29 = .ok (.bastore, 1) := by decide +kernel
theorem d125_30 : decode prog_8_method_8_code 30 = .ok (.aload_n 0, 1) := by decide +kernel
theorem d125_31 : decode prog_8_method_8_code 31 = .ok (.iconst 0, 1) := by decide +kernel
theorem d125_32 : decode prog_8_method_8_code 32 = .ok (.putfield 67, 3) := by decide +kernel
theorem f125_67 : xFd (xMo 125) 67 = some (8, 8) := by decide +kernel
theorem d125_35 : decode prog_8_method_8_code 35 = .ok (.return_, 1) := by decide +kernel
set_option maxRecDepth 100000 in
theorem q126 : xMc 126 = prog_8_method_20_code := rfl
theorem m126 : xMl 126 = 1 ∧ xMret 126 = (some FieldType.char) ∧ xMh 126 = [] := by decide +kernel
theorem e126 {X : xX} {d : Nat} {w : xH} {Q : xO → xH → Prop} (a : Nat) : Cw X d 126 [.ref a] w Q = Wx X d 126 0 [some (.ref a)] [] w Q := by
  unfold Cw
  rw [m126.1]
  rfl
theorem d126_0 : decode prog_8_method_20_code 0 = .ok (.aload_n 0, 1) := by decide +kernel
theorem d126_1 : decode prog_8_method_20_code 1 = .ok (.getfield 33, 3) := by decide +kernel
theorem f126_33 : xFd (xMo 126) 33 = some (8, 7) := by decide +kernel
theorem d126_4 : decode prog_8_method_20_code 4 = .ok (.ifCond .lt 26, 3) := by decide +kernel
theorem d126_7 : decode prog_8_method_20_code 7 = .ok (.aload_n 0, 1) := by decide +kernel
theorem d126_8 : decode prog_8_method_20_code 8 = .ok (.getfield 33, 3) := by decide +kernel
theorem d126_11 : decode prog_8_method_20_code 11 = .ok (.aload_n 0, 1) := by decide +kernel
theorem d126_12 : decode prog_8_method_20_code 12 = .ok (.getfield 29, 3) := by decide +kernel
theorem f126_29 : xFd (xMo 126) 29 = some (8, 1) := by decide +kernel
theorem d126_15 : decode prog_8_method_20_code 15 = .ok (.if_icmp .ge 15, 3) := by decide +kernel
theorem d126_18 : decode prog_8_method_20_code 18 = .ok (.aload_n 0, 1) := by decide +kernel
theorem d126_19 : decode prog_8_method_20_code 19 = .ok (.getfield 9, 3) := by decide +kernel
theorem f126_9 : xFd (xMo 126) 9 = some (8, 0) := by decide +kernel
theorem d126_22 : decode prog_8_method_20_code 22 = .ok (.aload_n 0, 1) := by decide +kernel
theorem d126_23 : decode prog_8_method_20_code 23 = .ok (.getfield 33, 3) := by decide +kernel
theorem d126_26 : decode prog_8_method_20_code 26 = .ok (.caload, 1) := by decide +kernel
theorem d126_27 : decode prog_8_method_20_code 27 = .ok (.goto 4, 3) := by decide +kernel
theorem d126_30 : decode prog_8_method_20_code 30 = .ok (.iconst 0, 1) := by decide +kernel
theorem d126_31 : decode prog_8_method_20_code 31 = .ok (.ireturn, 1) := by decide +kernel
set_option maxRecDepth 100000 in
theorem q127 : xMc 127 = prog_8_method_9_code := rfl
theorem m127 : xMl 127 = 3 ∧ xMret 127 = (some FieldType.boolean) ∧ xMh 127 = [] := by decide +kernel
theorem e127 {X : xX} {d : Nat} {w : xH} {Q : xO → xH → Prop} (a : Nat) (x0 : Int32) : Cw X d 127 [.ref a, .int x0] w Q = Wx X d 127 0 [some (.ref a), some (.int x0), none] [] w Q := by
  unfold Cw
  rw [m127.1]
  rfl
theorem d127_0 : decode prog_8_method_9_code 0 = .ok (.aload_n 0, 1) := by decide +kernel
theorem d127_1 : decode prog_8_method_9_code 1 = .ok (.invokevirtual 54, 3) := by decide +kernel
theorem k127_54_8 : xCa (xMo 127) 54 8 = some (1, 126, 0) := by decide +kernel
theorem n127_54 : xcn (xMo 127) 54 = some 0 := by decide +kernel
theorem d127_4 : decode prog_8_method_9_code 4 = .ok (.istore_n 2, 1) := by decide +kernel
theorem d127_5 : decode prog_8_method_9_code 5 = .ok (.iload_n 2, 1) := by decide +kernel
theorem d127_6 : decode prog_8_method_9_code 6 = .ok (.iload_n 1, 1) := by decide +kernel
theorem d127_7 : decode prog_8_method_9_code 7 = .ok (.if_icmp .ne 10, 3) := by decide +kernel
theorem d127_10 : decode prog_8_method_9_code 10 = .ok (.aload_n 0, 1) := by decide +kernel
theorem d127_11 : decode prog_8_method_9_code 11 = .ok (.iconst 0, 1) := by decide +kernel
theorem d127_12 : decode prog_8_method_9_code 12 = .ok (.putfield 64, 3) := by decide +kernel
theorem f127_64 : xFd (xMo 127) 64 = some (8, 3) := by decide +kernel
theorem d127_15 : decode prog_8_method_9_code 15 = .ok (.iconst 1, 1) := by decide +kernel
theorem d127_16 : decode prog_8_method_9_code 16 = .ok (.ireturn, 1) := by decide +kernel
theorem d127_17 : decode prog_8_method_9_code 17 = .ok (.aload_n 0, 1) := by decide +kernel
theorem d127_18 : decode prog_8_method_9_code 18 = .ok (.iconst 1, 1) := by decide +kernel
theorem d127_19 : decode prog_8_method_9_code 19 = .ok (.putfield 64, 3) := by decide +kernel
theorem d127_22 : decode prog_8_method_9_code 22 = .ok (.iload_n 2, 1) := by decide +kernel
theorem d127_23 : decode prog_8_method_9_code 23 = .ok (.bipush 45, 2) := by decide +kernel
theorem d127_25 : decode prog_8_method_9_code 25 = .ok (.if_icmp .ne 13, 3) := by decide +kernel
theorem d127_28 : decode prog_8_method_9_code 28 = .ok (.aload_n 0, 1) := by decide +kernel
theorem d127_29 : decode prog_8_method_9_code 29 = .ok (.dup, 1) := by decide +kernel
theorem d127_30 : decode prog_8_method_9_code 30 = .ok (.getfield 33, 3) := by decide +kernel
theorem f127_33 : xFd (xMo 127) 33 = some (8, 7) := by decide +kernel
theorem d127_33 : decode prog_8_method_9_code 33 = .ok (.iconst 1, 1) := by decide +kernel
theorem d127_34 : decode prog_8_method_9_code 34 = .ok (.iadd, 1) := by decide +kernel
theorem d127_35 : decode prog_8_method_9_code 35 = .ok (.putfield 33, 3) := by decide +kernel
theorem d127_38 : decode prog_8_method_9_code 38 = .ok (.aload_n 0, 1) := by decide +kernel
theorem d127_39 : decode prog_8_method_9_code 39 = .ok (.invokevirtual 88, 3) := by decide +kernel
theorem k127_88_8 : xCa (xMo 127) 88 8 = some (1, 128, 0) := by decide +kernel
theorem n127_88 : xcn (xMo 127) 88 = some 0 := by decide +kernel
theorem d127_42 : decode prog_8_method_9_code 42 = .ok (.ifCond .ne 5, 3) := by decide +kernel
theorem d127_45 : decode prog_8_method_9_code 45 = .ok (.iconst 0, 1) := by decide +kernel
theorem d127_46 : decode prog_8_method_9_code 46 = .ok (.ireturn, 1) := by decide +kernel
theorem d127_47 : decode prog_8_method_9_code 47 = .ok (.iload_n 2, 1) := by decide +kernel
theorem d127_48 : decode prog_8_method_9_code 48 = .ok (.bipush 45, 2) := by decide +kernel
theorem d127_50 : decode prog_8_method_9_code 50 = .ok (.if_icmp .ne 12, 3) := by decide +kernel
theorem d127_53 : decode prog_8_method_9_code 53 = .ok (.aload_n 0, 1) := by decide +kernel
theorem d127_54 : decode prog_8_method_9_code 54 = .ok (.aload_n 0, 1) := by decide +kernel
theorem d127_55 : decode prog_8_method_9_code 55 = .ok (.getfield 85, 3) := by decide +kernel
theorem f127_85 : xFd (xMo 127) 85 = some (8, 4) := by decide +kernel
theorem d127_58 : decode prog_8_method_9_code 58 = .ok (.ineg, 1) := by decide +kernel
theorem d127_59 : decode prog_8_method_9_code 59 = .ok (.putfield 85, 3) := by decide +kernel
theorem d127_62 : decode prog_8_method_9_code 62 = .ok (.aload_n 0, 1) := by decide +kernel
theorem d127_63 : decode prog_8_method_9_code 63 = .ok (.invokevirtual 54, 3) := by decide +kernel
theorem d127_66 : decode prog_8_method_9_code 66 = .ok (.iload_n 1, 1) := by decide +kernel
theorem d127_67 : decode prog_8_method_9_code 67 = .ok (.if_icmp .ne 7, 3) := by decide +kernel
theorem d127_70 : decode prog_8_method_9_code 70 = .ok (.iconst 1, 1) := by decide +kernel
theorem d127_71 : decode prog_8_method_9_code 71 = .ok (.goto 4, 3) := by decide +kernel
theorem d127_74 : decode prog_8_method_9_code 74 = .ok (.iconst 0, 1) := by decide +kernel
theorem d127_75 : decode prog_8_method_9_code 75 = .ok (.ireturn, 1) := by decide +kernel
set_option maxRecDepth 100000 in
theorem q128 : xMc 128 = prog_8_method_19_code := rfl
theorem m128 : xMl 128 = 3 ∧ xMret 128 = (some FieldType.boolean) ∧ xMh 128 = [] := by decide +kernel
theorem e128 {X : xX} {d : Nat} {w : xH} {Q : xO → xH → Prop} (a : Nat) : Cw X d 128 [.ref a] w Q = Wx X d 128 0 [some (.ref a), none, none] [] w Q := by
  unfold Cw
  rw [m128.1]
  rfl
theorem d128_0 : decode prog_8_method_19_code 0 = .ok (.aload_n 0, 1) := by decide +kernel
theorem d128_1 : decode prog_8_method_19_code 1 = .ok (.iconst 0, 1) := by decide +kernel
theorem d128_2 : decode prog_8_method_19_code 2 = .ok (.putfield 85, 3) := by decide +kernel
theorem f128_85 : xFd (xMo 128) 85 = some (8, 4) := by decide +kernel
theorem d128_5 : decode prog_8_method_19_code 5 = .ok (.aload_n 0, 1) := by decide +kernel
theorem d128_6 : decode prog_8_method_19_code 6 = .ok (.invokevirtual 54, 3) := by decide +kernel
theorem k128_54_8 : xCa (xMo 128) 54 8 = some (1, 126, 0) := by decide +kernel
theorem n128_54 : xcn (xMo 128) 54 = some 0 := by decide +kernel
theorem d128_9 : decode prog_8_method_19_code 9 = .ok (.invokestatic 99, 3) := by decide +kernel
theorem k128_99_99 : xCa (xMo 128) 99 99 = some (0, 129, 1) := by decide +kernel
theorem d128_12 : decode prog_8_method_19_code 12 = .ok (.ifCond .ne 5, 3) := by decide +kernel
theorem d128_15 : decode prog_8_method_19_code 15 = .ok (.iconst 0, 1) := by decide +kernel
theorem d128_16 : decode prog_8_method_19_code 16 = .ok (.ireturn, 1) := by decide +kernel
theorem d128_17 : decode prog_8_method_19_code 17 = .ok (.aload_n 0, 1) := by decide +kernel
theorem d128_18 : decode prog_8_method_19_code 18 = .ok (.invokevirtual 54, 3) := by decide +kernel
theorem d128_21 : decode prog_8_method_19_code 21 = .ok (.bipush 48, 2) := by decide +kernel
theorem d128_23 : decode prog_8_method_19_code 23 = .ok (.if_icmp .ne 7, 3) := by decide +kernel
theorem d128_26 : decode prog_8_method_19_code 26 = .ok (.iconst 1, 1) := by decide +kernel
theorem d128_27 : decode prog_8_method_19_code 27 = .ok (.goto 5, 3) := by decide +kernel
theorem d128_30 : decode prog_8_method_19_code 30 = .ok (.bipush 6, 2) := by decide +kernel
theorem d128_32 : decode prog_8_method_19_code 32 = .ok (.istore_n 1, 1) := by decide +kernel
theorem d128_33 : decode prog_8_method_19_code 33 = .ok (.iconst 0, 1) := by decide +kernel
theorem d128_34 : decode prog_8_method_19_code 34 = .ok (.istore_n 2, 1) := by decide +kernel
theorem d128_35 : decode prog_8_method_19_code 35 = .ok (.iload_n 2, 1) := by decide +kernel
theorem d128_36 : decode prog_8_method_19_code 36 = .ok (.iload_n 1, 1) := by decide +kernel
theorem d128_37 : decode prog_8_method_19_code 37 = .ok (.if_icmp .ge 48, 3) := by decide +kernel
theorem d128_40 : decode prog_8_method_19_code 40 = .ok (.aload_n 0, 1) := by decide +kernel
theorem d128_41 : decode prog_8_method_19_code 41 = .ok (.invokevirtual 54, 3) := by decide +kernel
theorem d128_44 : decode prog_8_method_19_code 44 = .ok (.invokestatic 99, 3) := by decide +kernel
theorem d128_47 : decode prog_8_method_19_code 47 = .ok (.ifCond .eq 38, 3) := by decide +kernel
theorem d128_50 : decode prog_8_method_19_code 50 = .ok (.aload_n 0, 1) := by decide +kernel
theorem d128_51 : decode prog_8_method_19_code 51 = .ok (.bipush 10, 2) := by decide +kernel
theorem d128_53 : decode prog_8_method_19_code 53 = .ok (.aload_n 0, 1) := by decide +kernel
theorem d128_54 : decode prog_8_method_19_code 54 = .ok (.getfield 85, 3) := by decide +kernel
theorem d128_57 : decode prog_8_method_19_code 57 = .ok (.imul, 1) := by decide +kernel
theorem d128_58 : decode prog_8_method_19_code 58 = .ok (.aload_n 0, 1) := by decide +kernel
theorem d128_59 : decode prog_8_method_19_code 59 = .ok (.invokevirtual 54, 3) := by decide +kernel
theorem d128_62 : decode prog_8_method_19_code 62 = .ok (.bipush 48, 2) := by decide +kernel
theorem d128_64 : decode prog_8_method_19_code 64 = .ok (.isub, 1) := by decide +kernel
theorem d128_65 : decode prog_8_method_19_code 65 = .ok (.iadd, 1) := by decide +kernel
theorem d128_66 : decode prog_8_method_19_code 66 = .ok (.putfield 85, 3) := by decide +kernel
theorem d128_69 : decode prog_8_method_19_code 69 = .ok (.aload_n 0, 1) := by decide +kernel
theorem d128_70 : decode prog_8_method_19_code 70 = .ok (.dup, 1) := by decide +kernel
theorem d128_71 : decode prog_8_method_19_code 71 = .ok (.getfield 33, 3) := by decide +kernel
theorem f128_33 : xFd (xMo 128) 33 = some (8, 7) := by decide +kernel
theorem d128_74 : decode prog_8_method_19_code 74 = .ok (.iconst 1, 1) := by decide +kernel
theorem d128_75 : decode prog_8_method_19_code 75 = .ok (.iadd, 1) := by decide +kernel
theorem d128_76 : decode prog_8_method_19_code 76 = .ok (.putfield 33, 3) := by decide +kernel
theorem d128_79 : decode prog_8_method_19_code 79 = .ok (.iinc 2 1, 3) := by decide +kernel
theorem d128_82 : decode prog_8_method_19_code 82 = .ok (.goto (-47), 3) := by decide +kernel
theorem d128_85 : decode prog_8_method_19_code 85 = .ok (.iconst 1, 1) := by decide +kernel
theorem d128_86 : decode prog_8_method_19_code 86 = .ok (.ireturn, 1) := by decide +kernel
set_option maxRecDepth 100000 in
theorem q129 : xMc 129 = prog_8_method_25_code := rfl
theorem m129 : xMl 129 = 1 ∧ xMret 129 = (some FieldType.boolean) ∧ xMh 129 = [] := by decide +kernel
theorem e129 {X : xX} {d : Nat} {w : xH} {Q : xO → xH → Prop} (x0 : Int32) : Cw X d 129 [.int x0] w Q = Wx X d 129 0 [some (.int x0)] [] w Q := by
  unfold Cw
  rw [m129.1]
  rfl
theorem d129_0 : decode prog_8_method_25_code 0 = .ok (.iload_n 0, 1) := by decide +kernel
theorem d129_1 : decode prog_8_method_25_code 1 = .ok (.bipush 48, 2) := by decide +kernel
theorem d129_3 : decode prog_8_method_25_code 3 = .ok (.if_icmp .lt 13, 3) := by decide +kernel
theorem d129_6 : decode prog_8_method_25_code 6 = .ok (.iload_n 0, 1) := by decide +kernel
theorem d129_7 : decode prog_8_method_25_code 7 = .ok (.bipush 57, 2) := by decide +kernel
theorem d129_9 : decode prog_8_method_25_code 9 = .ok (.if_icmp .gt 7, 3) := by decide +kernel
theorem d129_12 : decode prog_8_method_25_code 12 = .ok (.iconst 1, 1) := by decide +kernel
theorem d129_13 : decode prog_8_method_25_code 13 = .ok (.goto 4, 3) := by decide +kernel
theorem d129_16 : decode prog_8_method_25_code 16 = .ok (.iconst 0, 1) := by decide +kernel
theorem d129_17 : decode prog_8_method_25_code 17 = .ok (.ireturn, 1) := by decide +kernel
set_option maxRecDepth 100000 in
theorem q130 : xMc 130 = prog_8_method_10_code := rfl
theorem m130 : xMl 130 = 2 ∧ xMret 130 = (some FieldType.boolean) ∧ xMh 130 = [] := by decide +kernel
theorem e130 {X : xX} {d : Nat} {w : xH} {Q : xO → xH → Prop} (a : Nat) : Cw X d 130 [.ref a] w Q = Wx X d 130 0 [some (.ref a), none] [] w Q := by
  unfold Cw
  rw [m130.1]
  rfl
theorem d130_0 : decode prog_8_method_10_code 0 = .ok (.aload_n 0, 1) := by decide +kernel
theorem d130_1 : decode prog_8_method_10_code 1 = .ok (.invokevirtual 54, 3) := by decide +kernel
theorem k130_54_8 : xCa (xMo 130) 54 8 = some (1, 126, 0) := by decide +kernel
theorem n130_54 : xcn (xMo 130) 54 = some 0 := by decide +kernel
theorem d130_4 : decode prog_8_method_10_code 4 = .ok (.istore_n 1, 1) := by decide +kernel
theorem d130_5 : decode prog_8_method_10_code 5 = .ok (.iload_n 1, 1) := by decide +kernel
theorem d130_6 : decode prog_8_method_10_code 6 = .ok (.bipush 45, 2) := by decide +kernel
theorem d130_8 : decode prog_8_method_10_code 8 = .ok (.if_icmp .ne 15, 3) := by decide +kernel
theorem d130_11 : decode prog_8_method_10_code 11 = .ok (.aload_n 0, 1) := by decide +kernel
theorem d130_12 : decode prog_8_method_10_code 12 = .ok (.iload_n 1, 1) := by decide +kernel
theorem d130_13 : decode prog_8_method_10_code 13 = .ok (.invokevirtual 91, 3) := by decide +kernel
theorem k130_91_8 : xCa (xMo 130) 91 8 = some (1, 131, 1) := by decide +kernel
theorem n130_91 : xcn (xMo 130) 91 = some 1 := by decide +kernel
theorem d130_16 : decode prog_8_method_10_code 16 = .ok (.aload_n 0, 1) := by decide +kernel
theorem d130_17 : decode prog_8_method_10_code 17 = .ok (.iconst 0, 1) := by decide +kernel
theorem d130_18 : decode prog_8_method_10_code 18 = .ok (.putfield 67, 3) := by decide +kernel
theorem f130_67 : xFd (xMo 130) 67 = some (8, 8) := by decide +kernel
theorem d130_21 : decode prog_8_method_10_code 21 = .ok (.iconst 1, 1) := by decide +kernel
theorem d130_22 : decode prog_8_method_10_code 22 = .ok (.ireturn, 1) := by decide +kernel
theorem d130_23 : decode prog_8_method_10_code 23 = .ok (.iload_n 1, 1) := by decide +kernel
theorem d130_24 : decode prog_8_method_10_code 24 = .ok (.bipush 40, 2) := by decide +kernel
theorem d130_26 : decode prog_8_method_10_code 26 = .ok (.if_icmp .ne 16, 3) := by decide +kernel
theorem d130_29 : decode prog_8_method_10_code 29 = .ok (.aload_n 0, 1) := by decide +kernel
theorem d130_30 : decode prog_8_method_10_code 30 = .ok (.iload_n 1, 1) := by decide +kernel
theorem d130_31 : decode prog_8_method_10_code 31 = .ok (.invokevirtual 91, 3) := by decide +kernel
theorem d130_34 : decode prog_8_method_10_code 34 = .ok (.aload_n 0, 1) := by decide +kernel
theorem d130_35 : decode prog_8_method_10_code 35 = .ok (.bipush 6, 2) := by decide +kernel
theorem d130_37 : decode prog_8_method_10_code 37 = .ok (.invokevirtual 95, 3) := by decide +kernel
theorem k130_95_8 : xCa (xMo 130) 95 8 = some (1, 133, 1) := by decide +kernel
theorem n130_95 : xcn (xMo 130) 95 = some 1 := by decide +kernel
theorem d130_40 : decode prog_8_method_10_code 40 = .ok (.iconst 1, 1) := by decide +kernel
theorem d130_41 : decode prog_8_method_10_code 41 = .ok (.ireturn, 1) := by decide +kernel
theorem d130_42 : decode prog_8_method_10_code 42 = .ok (.iload_n 1, 1) := by decide +kernel
theorem d130_43 : decode prog_8_method_10_code 43 = .ok (.invokestatic 99, 3) := by decide +kernel
theorem k130_99_99 : xCa (xMo 130) 99 99 = some (0, 129, 1) := by decide +kernel
theorem d130_46 : decode prog_8_method_10_code 46 = .ok (.ifCond .eq 27, 3) := by decide +kernel
theorem d130_49 : decode prog_8_method_10_code 49 = .ok (.aload_n 0, 1) := by decide +kernel
theorem d130_50 : decode prog_8_method_10_code 50 = .ok (.invokevirtual 88, 3) := by decide +kernel
theorem k130_88_8 : xCa (xMo 130) 88 8 = some (1, 128, 0) := by decide +kernel
theorem n130_88 : xcn (xMo 130) 88 = some 0 := by decide +kernel
theorem d130_53 : decode prog_8_method_10_code 53 = .ok (.pop, 1) := by decide +kernel
theorem d130_54 : decode prog_8_method_10_code 54 = .ok (.aload_n 0, 1) := by decide +kernel
theorem d130_55 : decode prog_8_method_10_code 55 = .ok (.iconst 1, 1) := by decide +kernel
theorem d130_56 : decode prog_8_method_10_code 56 = .ok (.aload_n 0, 1) := by decide +kernel
theorem d130_57 : decode prog_8_method_10_code 57 = .ok (.getfield 85, 3) := by decide +kernel
theorem f130_85 : xFd (xMo 130) 85 = some (8, 4) := by decide +kernel
theorem d130_60 : decode prog_8_method_10_code 60 = .ok (.invokestatic 104, 3) := by decide +kernel
theorem k130_104_99 : xCa (xMo 130) 104 99 = some (0, 167, 2) := by decide +kernel
theorem d130_63 : decode prog_8_method_10_code 63 = .ok (.invokevirtual 108, 3) := by decide +kernel
theorem k130_108_8 : xCa (xMo 130) 108 8 = some (1, 132, 1) := by decide +kernel
theorem n130_108 : xcn (xMo 130) 108 = some 1 := by decide +kernel
theorem d130_66 : decode prog_8_method_10_code 66 = .ok (.aload_n 0, 1) := by decide +kernel
theorem d130_67 : decode prog_8_method_10_code 67 = .ok (.iconst 2, 1) := by decide +kernel
theorem d130_68 : decode prog_8_method_10_code 68 = .ok (.putfield 67, 3) := by decide +kernel
theorem d130_71 : decode prog_8_method_10_code 71 = .ok (.iconst 1, 1) := by decide +kernel
theorem d130_72 : decode prog_8_method_10_code 72 = .ok (.ireturn, 1) := by decide +kernel
theorem d130_73 : decode prog_8_method_10_code 73 = .ok (.aload_n 0, 1) := by decide +kernel
theorem d130_74 : decode prog_8_method_10_code 74 = .ok (.invokevirtual 111, 3) := by decide +kernel
theorem k130_111_8 : xCa (xMo 130) 111 8 = some (1, 134, 0) := by decide +kernel
theorem n130_111 : xcn (xMo 130) 111 = some 0 := by decide +kernel
theorem d130_77 : decode prog_8_method_10_code 77 = .ok (.ireturn, 1) := by decide +kernel
set_option maxRecDepth 100000 in
theorem q131 : xMc 131 = prog_8_method_22_code := rfl
theorem m131 : xMl 131 = 2 ∧ xMret 131 = none ∧ xMh 131 = [] := by decide +kernel
theorem e131 {X : xX} {d : Nat} {w : xH} {Q : xO → xH → Prop} (a : Nat) (x0 : Int32) : Cw X d 131 [.ref a, .int x0] w Q = Wx X d 131 0 [some (.ref a), some (.int x0)] [] w Q := by
  unfold Cw
  rw [m131.1]
  rfl
theorem d131_0 : decode prog_8_method_22_code 0 = .ok (.aload_n 0, 1) := by decide +kernel
theorem d131_1 : decode prog_8_method_22_code 1 = .ok (.iconst 5, 1) := by decide +kernel
theorem d131_2 : decode prog_8_method_22_code 2 = .ok (.iload_n 1, 1) := by decide +kernel
theorem d131_3 : decode prog_8_method_22_code 3 = .ok (.invokestatic 104, 3) := by decide +kernel
theorem k131_104_99 : xCa (xMo 131) 104 99 = some (0, 167, 2) := by decide +kernel
theorem d131_6 : decode prog_8_method_22_code 6 = .ok (.invokevirtual 108, 3) := by decide +kernel
theorem k131_108_8 : xCa (xMo 131) 108 8 = some (1, 132, 1) := by decide +kernel
theorem n131_108 : xcn (xMo 131) 108 = some 1 := by decide +kernel
theorem d131_9 : decode prog_8_method_22_code 9 = .ok (.aload_n 0, 1) := by decide +kernel
theorem d131_10 : decode prog_8_method_22_code 10 = .ok (.dup, 1) := by decide +kernel
theorem d131_11 : decode prog_8_method_22_code 11 = .ok (.getfield 33, 3) := by decide +kernel
theorem f131_33 : xFd (xMo 131) 33 = some (8, 7) := by decide +kernel
theorem d131_14 : decode prog_8_method_22_code 14 = .ok (.iconst 1, 1) := by decide +kernel
theorem d131_15 : decode prog_8_method_22_code 15 = .ok (.iadd, 1) := by decide +kernel
theorem d131_16 : decode prog_8_method_22_code 16 = .ok (.putfield 33, 3) := by decide +kernel
theorem d131_19 : decode prog_8_method_22_code 19 = .ok (.return_, 1) := by decide +kernel
set_option maxRecDepth 100000 in
theorem q132 : xMc 132 = prog_8_method_23_code := rfl
theorem m132 : xMl 132 = 2 ∧ xMret 132 = none ∧ xMh 132 = [] := by decide +kernel
theorem e132 {X : xX} {d : Nat} {w : xH} {Q : xO → xH → Prop} (a : Nat) (x0 : Int32) : Cw X d 132 [.ref a, .int x0] w Q = Wx X d 132 0 [some (.ref a), some (.int x0)] [] w Q := by
  unfold Cw
  rw [m132.1]
  rfl
theorem d132_0 : decode prog_8_method_23_code 0 = .ok (.aload_n 0, 1) := by decide +kernel
theorem d132_1 : decode prog_8_method_23_code 1 = .ok (.getfield 82, 3) := by decide +kernel
theorem f132_82 : xFd (xMo 132) 82 = some (8, 6) := by decide +kernel
theorem d132_4 : decode prog_8_method_23_code 4 = .ok (.bipush 60, 2) := by decide +kernel
theorem d132_6 : decode prog_8_method_23_code 6 = .ok (.if_icmp .ge 23, 3) := by decide +kernel
theorem d132_9 : decode prog_8_method_23_code 9 = .ok (.aload_n 0, 1) := by decide +kernel
theorem d132_10 : decode prog_8_method_23_code 10 = .ok (.getfield 15, 3) := by decide +kernel
theorem f132_15 : xFd (xMo 132) 15 = some (8, 5) := by decide +kernel
theorem d132_13 : decode prog_8_method_23_code 13 = .ok (.aload_n 0, 1) := by decide +kernel
theorem d132_14 : decode prog_8_method_23_code 14 = .ok (.getfield 82, 3) := by decide +kernel
theorem d132_17 : decode prog_8_method_23_code 17 = .ok (.iload_n 1, 1) := by decide +kernel
theorem d132_18 : decode prog_8_method_23_code 18 = .ok (.iastore, 1) := by decide +kernel
theorem d132_19 : decode prog_8_method_23_code 19 = .ok (.aload_n 0, 1) := by decide +kernel
theorem d132_20 : decode prog_8_method_23_code 20 = .ok (.dup, 1) := by decide +kernel
theorem d132_21 : decode prog_8_method_23_code 21 = .ok (.getfield 82, 3) := by decide +kernel
theorem d132_24 : decode prog_8_method_23_code 24 = .ok (.iconst 1, 1) := by decide +kernel
theorem d132_25 : decode prog_8_method_23_code 25 = .ok (.iadd, 1) := by decide +kernel
theorem d132_26 : decode prog_8_method_23_code 26 = .ok (.putfield 82, 3) := by decide +kernel
theorem d132_29 : decode prog_8_method_23_code 29 = .ok (.return_, 1) := by decide +kernel
set_option maxRecDepth 100000 in
theorem q133 : xMc 133 = prog_8_method_17_code := rfl
theorem m133 : xMl 133 = 2 ∧ xMret 133 = none ∧ xMh 133 = [] := by decide +kernel
theorem e133 {X : xX} {d : Nat} {w : xH} {Q : xO → xH → Prop} (a : Nat) (x0 : Int32) : Cw X d 133 [.ref a, .int x0] w Q = Wx X d 133 0 [some (.ref a), some (.int x0)] [] w Q := by
  unfold Cw
  rw [m133.1]
  rfl
theorem d133_0 : decode prog_8_method_17_code 0 = .ok (.aload_n 0, 1) := by decide +kernel
theorem d133_1 : decode prog_8_method_17_code 1 = .ok (.getfield 73, 3) := by decide +kernel
theorem f133_73 : xFd (xMo 133) 73 = some (8, 12) := by decide +kernel
theorem d133_4 : decode prog_8_method_17_code 4 = .ok (.bipush 60, 2) := by decide +kernel
theorem d133_6 : decode prog_8_method_17_code 6 = .ok (.if_icmp .ge 13, 3) := by decide +kernel
theorem d133_9 : decode prog_8_method_17_code 9 = .ok (.aload_n 0, 1) := by decide +kernel
theorem d133_10 : decode prog_8_method_17_code 10 = .ok (.dup, 1) := by decide +kernel
theorem d133_11 : decode prog_8_method_17_code 11 = .ok (.getfield 73, 3) := by decide +kernel
theorem d133_14 : decode prog_8_method_17_code 14 = .ok (.iconst 1, 1) := by decide +kernel
theorem d133_15 : decode prog_8_method_17_code 15 = .ok (.iadd, 1) := by decide +kernel
theorem d133_16 : decode prog_8_method_17_code 16 = .ok (.putfield 73, 3) := by decide +kernel
theorem d133_19 : decode prog_8_method_17_code 19 = .ok (.aload_n 0, 1) := by decide +kernel
theorem d133_20 : decode prog_8_method_17_code 20 = .ok (.getfield 19, 3) := by decide +kernel
theorem f133_19 : xFd (xMo 133) 19 = some (8, 9) := by decide +kernel
theorem d133_23 : decode prog_8_method_17_code 23 = .ok (.aload_n 0, 1) := by decide +kernel
theorem d133_24 : decode prog_8_method_17_code 24 = .ok (.getfield 73, 3) := by decide +kernel
theorem d133_27 : decode prog_8_method_17_code 27 = .ok (.iload_n 1, 1) := by decide +kernel
theorem d133_28 : decode prog_8_method_17_code 28 = .ok (.iastore, 1) := by decide +kernel
theorem d133_29 : decode prog_8_method_17_code 29 = .ok (.aload_n 0, 1) := by decide +kernel
theorem d133_30 : decode prog_8_method_17_code 30 = .ok (.getfield 22, 3) := by decide +kernel
theorem f133_22 : xFd (xMo 133) 22 = some (8, 10) := by decide +kernel
theorem d133_33 : decode prog_8_method_17_code 33 = .ok (.aload_n 0, 1) := by decide +kernel
theorem d133_34 : decode prog_8_method_17_code 34 = .ok (.getfield 73, 3) := by decide +kernel
theorem d133_37 : decode prog_8_method_17_code 37 = .ok (.iconst 1, 1) := by decide +kernel
theorem d133_38 : decode prog_8_method_17_code 38 = .ok (.iastore, 1) := by decide +kernel
theorem d133_39 : decode prog_8_method_17_code 39 = .ok (.aload_n 0, 1) := by decide +kernel
theorem d133_40 : decode prog_8_method_17_code 40 = .ok (.getfield 25, 3) := by decide +kernel
theorem f133_25 : xFd (xMo 133) 25 = some (8, 11) := by decide +kernel
theorem d133_43 : decode prog_8_method_17_code 43 = .ok (.aload_n 0, 1) := by decide +kernel
theorem d133_44 : decode prog_8_method_17_code 44 = .ok (.getfield 73, 3) := by decide +kernel
theorem d133_47 : decode prog_8_method_17_code 47 = .ok (.iconst 0, 1) := by decide +kernel
theorem d133_48 : decode prog_8_method_17_code 48 = .ok (.bastore, 1) := by decide +kernel
theorem d133_49 : decode prog_8_method_17_code 49 = .ok (.aload_n 0, 1) := by decide +kernel
theorem d133_50 : decode prog_8_method_17_code 50 = .ok (.iload_n 1, 1) := by decide +kernel
theorem d133_51 : decode prog_8_method_17_code 51 = .ok (.iconst 3, 1) := by decide +kernel
theorem d133_52 : decode prog_8_method_17_code 52 = .ok (.if_icmp .gt 7, 3) := by decide +kernel
theorem d133_55 : decode prog_8_method_17_code 55 = .ok (.iconst 1, 1) := by decide +kernel
theorem d133_56 : decode prog_8_method_17_code 56 = .ok (.goto 4, 3) := by decide +kernel
theorem d133_59 : decode prog_8_method_17_code 59 = .ok (.iconst 0, 1) := by decide +kernel
theorem d133_60 : decode prog_8_method_17_code 60 = .ok (.putfield 67, 3) := by decide +kernel
theorem f133_67 : xFd (xMo 133) 67 = some (8, 8) := by decide +kernel
theorem d133_63 : decode prog_8_method_17_code 63 = .ok (.return_, 1) := by decide +kernel
set_option maxRecDepth 100000 in
theorem q134 : xMc 134 = prog_8_method_11_code := rfl
theorem m134 : xMl 134 = 5 ∧ xMret 134 = (some FieldType.boolean) ∧ xMh 134 = [] := by decide +kernel
theorem e134 {X : xX} {d : Nat} {w : xH} {Q : xO → xH → Prop} (a : Nat) : Cw X d 134 [.ref a] w Q = Wx X d 134 0 [some (.ref a), none, none, none, none] [] w Q := by
  unfold Cw
  rw [m134.1]
  rfl
theorem d134_0 : decode prog_8_method_11_code 0 = .ok (.iconst 0, 1) := by decide +kernel
theorem d134_1 : decode prog_8_method_11_code 1 = .ok (.istore_n 1, 1) := by decide +kernel
theorem d134_2 : decode prog_8_method_11_code 2 = .ok (.iconst 0, 1) := by decide +kernel
theorem d134_3 : decode prog_8_method_11_code 3 = .ok (.istore_n 2, 1) := by decide +kernel
theorem d134_4 : decode prog_8_method_11_code 4 = .ok (.iload_n 2, 1) := by decide +kernel
theorem d134_5 : decode prog_8_method_11_code 5 = .ok (.bipush 6, 2) := by decide +kernel
theorem d134_7 : decode prog_8_method_11_code 7 = .ok (.if_icmp .ge 65, 3) := by decide +kernel
theorem d134_10 : decode prog_8_method_11_code 10 = .ok (.iload_n 2, 1) := by decide +kernel
theorem d134_11 : decode prog_8_method_11_code 11 = .ok (.invokestatic 114, 3) := by decide +kernel
theorem k134_114_99 : xCa (xMo 134) 114 99 = some (0, 168, 1) := by decide +kernel
theorem d134_14 : decode prog_8_method_11_code 14 = .ok (.astore_n 3, 1) := by decide +kernel
theorem d134_15 : decode prog_8_method_11_code 15 = .ok (.aload_n 0, 1) := by decide +kernel
theorem d134_16 : decode prog_8_method_11_code 16 = .ok (.aload_n 3, 1) := by decide +kernel
theorem d134_17 : decode prog_8_method_11_code 17 = .ok (.invokevirtual 118, 3) := by decide +kernel
theorem k134_118_8 : xCa (xMo 134) 118 8 = some (1, 135, 1) := by decide +kernel
theorem n134_118 : xcn (xMo 134) 118 = some 1 := by decide +kernel
theorem d134_20 : decode prog_8_method_11_code 20 = .ok (.istore 4, 2) := by decide +kernel
theorem d134_22 : decode prog_8_method_11_code 22 = .ok (.iload 4, 2) := by decide +kernel
theorem d134_24 : decode prog_8_method_11_code 24 = .ok (.aload_n 3, 1) := by decide +kernel
theorem d134_25 : decode prog_8_method_11_code 25 = .ok (.invokevirtual 122, 3) := by decide +kernel
theorem k134_122_0 : xCa (xMo 134) 122 0 = some (1, 399, 0) := by decide +kernel
theorem n134_122 : xcn (xMo 134) 122 = some 0 := by decide +kernel
theorem d134_28 : decode prog_8_method_11_code 28 = .ok (.if_icmp .ne 31, 3) := by decide +kernel
theorem d134_31 : decode prog_8_method_11_code 31 = .ok (.aload_n 0, 1) := by decide +kernel
theorem d134_32 : decode prog_8_method_11_code 32 = .ok (.dup, 1) := by decide +kernel
theorem d134_33 : decode prog_8_method_11_code 33 = .ok (.getfield 33, 3) := by decide +kernel
theorem f134_33 : xFd (xMo 134) 33 = some (8, 7) := by decide +kernel
theorem d134_36 : decode prog_8_method_11_code 36 = .ok (.iload 4, 2) := by decide +kernel
theorem d134_38 : decode prog_8_method_11_code 38 = .ok (.iadd, 1) := by decide +kernel
theorem d134_39 : decode prog_8_method_11_code 39 = .ok (.putfield 33, 3) := by decide +kernel
theorem d134_42 : decode prog_8_method_11_code 42 = .ok (.aload_n 0, 1) := by decide +kernel
theorem d134_43 : decode prog_8_method_11_code 43 = .ok (.bipush 6, 2) := by decide +kernel
theorem d134_45 : decode prog_8_method_11_code 45 = .ok (.iload_n 2, 1) := by decide +kernel
theorem d134_46 : decode prog_8_method_11_code 46 = .ok (.invokestatic 104, 3) := by decide +kernel
theorem k134_104_99 : xCa (xMo 134) 104 99 = some (0, 167, 2) := by decide +kernel
theorem d134_49 : decode prog_8_method_11_code 49 = .ok (.invokevirtual 108, 3) := by decide +kernel
theorem k134_108_8 : xCa (xMo 134) 108 8 = some (1, 132, 1) := by decide +kernel
theorem n134_108 : xcn (xMo 134) 108 = some 1 := by decide +kernel
theorem d134_52 : decode prog_8_method_11_code 52 = .ok (.aload_n 0, 1) := by decide +kernel
theorem d134_53 : decode prog_8_method_11_code 53 = .ok (.iload_n 2, 1) := by decide +kernel
theorem d134_54 : decode prog_8_method_11_code 54 = .ok (.invokevirtual 95, 3) := by decide +kernel
theorem k134_95_8 : xCa (xMo 134) 95 8 = some (1, 133, 1) := by decide +kernel
theorem n134_95 : xcn (xMo 134) 95 = some 1 := by decide +kernel
theorem d134_57 : decode prog_8_method_11_code 57 = .ok (.iconst 1, 1) := by decide +kernel
theorem d134_58 : decode prog_8_method_11_code 58 = .ok (.ireturn, 1) := by decide +kernel
theorem d134_59 : decode prog_8_method_11_code 59 = .ok (.iload_n 1, 1) := by decide +kernel
theorem d134_60 : decode prog_8_method_11_code 60 = .ok (.iload 4, 2) := by decide +kernel
theorem d134_62 : decode prog_8_method_11_code 62 = .ok (.invokestatic 127, 3) := by decide +kernel
theorem k134_127_99 : xCa (xMo 134) 127 99 = some (0, 410, 2) := by decide +kernel
theorem d134_65 : decode prog_8_method_11_code 65 = .ok (.istore_n 1, 1) := by decide +kernel
theorem d134_66 : decode prog_8_method_11_code 66 = .ok (.iinc 2 1, 3) := by decide +kernel
theorem d134_69 : decode prog_8_method_11_code 69 = .ok (.goto (-65), 3) := by decide +kernel
theorem d134_72 : decode prog_8_method_11_code 72 = .ok (.iload_n 1, 1) := by decide +kernel
theorem d134_73 : decode prog_8_method_11_code 73 = .ok (.iconst 1, 1) := by decide +kernel
theorem d134_74 : decode prog_8_method_11_code 74 = .ok (.if_icmp .gt 13, 3) := by decide +kernel
theorem d134_77 : decode prog_8_method_11_code 77 = .ok (.aload_n 0, 1) := by decide +kernel
theorem d134_78 : decode prog_8_method_11_code 78 = .ok (.invokevirtual 54, 3) := by decide +kernel
theorem k134_54_8 : xCa (xMo 134) 54 8 = some (1, 126, 0) := by decide +kernel
theorem n134_54 : xcn (xMo 134) 54 = some 0 := by decide +kernel
theorem d134_81 : decode prog_8_method_11_code 81 = .ok (.invokestatic 132, 3) := by decide +kernel
theorem k134_132_99 : xCa (xMo 134) 132 99 = some (0, 136, 1) := by decide +kernel
theorem d134_84 : decode prog_8_method_11_code 84 = .ok (.ifCond .ne 15, 3) := by decide +kernel
theorem d134_87 : decode prog_8_method_11_code 87 = .ok (.aload_n 0, 1) := by decide +kernel
theorem d134_88 : decode prog_8_method_11_code 88 = .ok (.dup, 1) := by decide +kernel
theorem d134_89 : decode prog_8_method_11_code 89 = .ok (.getfield 33, 3) := by decide +kernel
theorem d134_92 : decode prog_8_method_11_code 92 = .ok (.iload_n 1, 1) := by decide +kernel
theorem d134_93 : decode prog_8_method_11_code 93 = .ok (.iadd, 1) := by decide +kernel
theorem d134_94 : decode prog_8_method_11_code 94 = .ok (.putfield 33, 3) := by decide +kernel
theorem d134_97 : decode prog_8_method_11_code 97 = .ok (.iconst 0, 1) := by decide +kernel
theorem d134_98 : decode prog_8_method_11_code 98 = .ok (.ireturn, 1) := by decide +kernel
theorem d134_99 : decode prog_8_method_11_code 99 = .ok (.aload_n 0, 1) := by decide +kernel
theorem d134_100 : decode prog_8_method_11_code 100 = .ok (.iconst 1, 1) := by decide +kernel
theorem d134_101 : decode prog_8_method_11_code 101 = .ok (.invokevirtual 47, 3) := by decide +kernel
theorem k134_47_8 : xCa (xMo 134) 47 8 = some (1, 137, 1) := by decide +kernel
theorem n134_47 : xcn (xMo 134) 47 = some 1 := by decide +kernel
theorem d134_104 : decode prog_8_method_11_code 104 = .ok (.istore_n 2, 1) := by decide +kernel
theorem d134_105 : decode prog_8_method_11_code 105 = .ok (.iload_n 2, 1) := by decide +kernel
theorem d134_106 : decode prog_8_method_11_code 106 = .ok (.ifCond .ge 5, 3) := by decide +kernel
theorem d134_109 : decode prog_8_method_11_code 109 = .ok (.iconst 0, 1) := by decide +kernel
theorem d134_110 : decode prog_8_method_11_code 110 = .ok (.ireturn, 1) := by decide +kernel
theorem d134_111 : decode prog_8_method_11_code 111 = .ok (.aload_n 0, 1) := by decide +kernel
theorem d134_112 : decode prog_8_method_11_code 112 = .ok (.iconst 2, 1) := by decide +kernel
theorem d134_113 : decode prog_8_method_11_code 113 = .ok (.iload_n 2, 1) := by decide +kernel
theorem d134_114 : decode prog_8_method_11_code 114 = .ok (.invokestatic 104, 3) := by decide +kernel
theorem d134_117 : decode prog_8_method_11_code 117 = .ok (.invokevirtual 108, 3) := by decide +kernel
theorem d134_120 : decode prog_8_method_11_code 120 = .ok (.aload_n 0, 1) := by decide +kernel
theorem d134_121 : decode prog_8_method_11_code 121 = .ok (.aload_n 0, 1) := by decide +kernel
theorem d134_122 : decode prog_8_method_11_code 122 = .ok (.getfield 67, 3) := by decide +kernel
theorem f134_67 : xFd (xMo 134) 67 = some (8, 8) := by decide +kernel
theorem d134_125 : decode prog_8_method_11_code 125 = .ok (.iconst 1, 1) := by decide +kernel
theorem d134_126 : decode prog_8_method_11_code 126 = .ok (.if_icmp .ne 7, 3) := by decide +kernel
theorem d134_129 : decode prog_8_method_11_code 129 = .ok (.iconst 3, 1) := by decide +kernel
theorem d134_130 : decode prog_8_method_11_code 130 = .ok (.goto 4, 3) := by decide +kernel
theorem d134_133 : decode prog_8_method_11_code 133 = .ok (.iconst 2, 1) := by decide +kernel
theorem d134_134 : decode prog_8_method_11_code 134 = .ok (.putfield 67, 3) := by decide +kernel
theorem d134_137 : decode prog_8_method_11_code 137 = .ok (.iconst 1, 1) := by decide +kernel
theorem d134_138 : decode prog_8_method_11_code 138 = .ok (.ireturn, 1) := by decide +kernel
set_option maxRecDepth 100000 in
theorem q135 : xMc 135 = prog_8_method_21_code := rfl
theorem m135 : xMl 135 = 3 ∧ xMret 135 = (some FieldType.int) ∧ xMh 135 = [] := by decide +kernel
theorem e135 {X : xX} {d : Nat} {w : xH} {Q : xO → xH → Prop} (a : Nat) (x0 : Nat) : Cw X d 135 [.ref a, .retAddr x0] w Q = Wx X d 135 0 [some (.ref a), some (.retAddr x0), none] [] w Q := by
  unfold Cw
  rw [m135.1]
  rfl
theorem d135_0 : decode prog_8_method_21_code 0 = .ok (.iconst 0, 1) := by decide +kernel
theorem d135_1 : decode prog_8_method_21_code 1 = .ok (.istore_n 2, 1) := by decide +kernel
theorem d135_2 : decode prog_8_method_21_code 2 = .ok (.iload_n 2, 1) := by decide +kernel
theorem d135_3 : decode prog_8_method_21_code 3 = .ok (.aload_n 1, 1) := by decide +kernel
theorem d135_4 : decode prog_8_method_21_code 4 = .ok (.invokevirtual 122, 3) := by decide +kernel
theorem k135_122_0 : xCa (xMo 135) 122 0 = some (1, 399, 0) := by decide +kernel
theorem n135_122 : xcn (xMo 135) 122 = some 0 := by decide +kernel
theorem d135_7 : decode prog_8_method_21_code 7 = .ok (.if_icmp .ge 41, 3) := by decide +kernel
theorem d135_10 : decode prog_8_method_21_code 10 = .ok (.aload_n 0, 1) := by decide +kernel
theorem d135_11 : decode prog_8_method_21_code 11 = .ok (.getfield 33, 3) := by decide +kernel
theorem f135_33 : xFd (xMo 135) 33 = some (8, 7) := by decide +kernel
theorem d135_14 : decode prog_8_method_21_code 14 = .ok (.iload_n 2, 1) := by decide +kernel
theorem d135_15 : decode prog_8_method_21_code 15 = .ok (.iadd, 1) := by decide +kernel
theorem d135_16 : decode prog_8_method_21_code 16 = .ok (.aload_n 0, 1) := by decide +kernel
theorem d135_17 : decode prog_8_method_21_code 17 = .ok (.getfield 29, 3) := by decide +kernel
theorem f135_29 : xFd (xMo 135) 29 = some (8, 1) := by decide +kernel
theorem d135_20 : decode prog_8_method_21_code 20 = .ok (.if_icmp .ge 28, 3) := by decide +kernel
theorem d135_23 : decode prog_8_method_21_code 23 = .ok (.aload_n 0, 1) := by decide +kernel
theorem d135_24 : decode prog_8_method_21_code 24 = .ok (.getfield 9, 3) := by decide +kernel
theorem f135_9 : xFd (xMo 135) 9 = some (8, 0) := by decide +kernel
theorem d135_27 : decode prog_8_method_21_code 27 = .ok (.aload_n 0, 1) := by decide +kernel
theorem d135_28 : decode prog_8_method_21_code 28 = .ok (.getfield 33, 3) := by decide +kernel
theorem d135_31 : decode prog_8_method_21_code 31 = .ok (.iload_n 2, 1) := by decide +kernel
theorem d135_32 : decode prog_8_method_21_code 32 = .ok (.iadd, 1) := by decide +kernel
theorem d135_33 : decode prog_8_method_21_code 33 = .ok (.caload, 1) := by decide +kernel
theorem d135_34 : decode prog_8_method_21_code 34 = .ok (.aload_n 1, 1) := by decide +kernel
theorem d135_35 : decode prog_8_method_21_code 35 = .ok (.iload_n 2, 1) := by decide +kernel
theorem d135_36 : decode prog_8_method_21_code 36 = .ok (.invokevirtual 151, 3) := by decide +kernel
theorem k135_151_0 : xCa (xMo 135) 151 0 = some (1, 400, 1) := by decide +kernel
theorem n135_151 : xcn (xMo 135) 151 = some 1 := by decide +kernel
theorem d135_39 : decode prog_8_method_21_code 39 = .ok (.if_icmp .ne 9, 3) := by decide +kernel
theorem d135_42 : decode prog_8_method_21_code 42 = .ok (.iinc 2 1, 3) := by decide +kernel
theorem d135_45 : decode prog_8_method_21_code 45 = .ok (.goto (-43), 3) := by decide +kernel
theorem d135_48 : decode prog_8_method_21_code 48 = .ok (.iload_n 2, 1) := by decide +kernel
theorem d135_49 : decode prog_8_method_21_code 49 = .ok (.ireturn, 1) := by decide +kernel
set_option maxRecDepth 100000 in
theorem q136 : xMc 136 = prog_8_method_24_code := rfl
theorem m136 : xMl 136 = 1 ∧ xMret 136 = (some FieldType.boolean) ∧ xMh 136 = [] := by decide +kernel
theorem e136 {X : xX} {d : Nat} {w : xH} {Q : xO → xH → Prop} (x0 : Int32) : Cw X d 136 [.int x0] w Q = Wx X d 136 0 [some (.int x0)] [] w Q := by
  unfold Cw
  rw [m136.1]
  rfl
theorem d136_0 : decode prog_8_method_24_code 0 = .ok (.iload_n 0, 1) := by decide +kernel
theorem d136_1 : decode prog_8_method_24_code 1 = .ok (.bipush 36, 2) := by decide +kernel
theorem d136_3 : decode prog_8_method_24_code 3 = .ok (.if_icmp .eq 15, 3) := by decide +kernel
theorem d136_6 : decode prog_8_method_24_code 6 = .ok (.iload_n 0, 1) := by decide +kernel
theorem d136_7 : decode prog_8_method_24_code 7 = .ok (.bipush 65, 2) := by decide +kernel
theorem d136_9 : decode prog_8_method_24_code 9 = .ok (.if_icmp .lt 13, 3) := by decide +kernel
theorem d136_12 : decode prog_8_method_24_code 12 = .ok (.iload_n 0, 1) := by decide +kernel
theorem d136_13 : decode prog_8_method_24_code 13 = .ok (.bipush 74, 2) := by decide +kernel
theorem d136_15 : decode prog_8_method_24_code 15 = .ok (.if_icmp .gt 7, 3) := by decide +kernel
theorem d136_18 : decode prog_8_method_24_code 18 = .ok (.iconst 1, 1) := by decide +kernel
theorem d136_19 : decode prog_8_method_24_code 19 = .ok (.goto 4, 3) := by decide +kernel
theorem d136_22 : decode prog_8_method_24_code 22 = .ok (.iconst 0, 1) := by decide +kernel
theorem d136_23 : decode prog_8_method_24_code 23 = .ok (.ireturn, 1) := by decide +kernel
set_option maxRecDepth 100000 in
theorem q137 : xMc 137 = prog_8_method_18_code := rfl
theorem m137 : xMl 137 = 7 ∧ xMret 137 = (some FieldType.int) ∧ xMh 137 = [] := by decide +kernel
theorem e137 {X : xX} {d : Nat} {w : xH} {Q : xO → xH → Prop} (a : Nat) (x0 : Int32) : Cw X d 137 [.ref a, .int x0] w Q = Wx X d 137 0 [some (.ref a), some (.int x0), none, none, none, none, none] [] w Q := by
  unfold Cw
  rw [m137.1]
  rfl
theorem d137_0 : decode prog_8_method_18_code 0 = .ok (.iconst 0, 1) := by decide +kernel
theorem d137_1 : decode prog_8_method_18_code 1 = .ok (.istore_n 2, 1) := by decide +kernel
theorem d137_2 : decode prog_8_method_18_code 2 = .ok (.iload_n 1, 1) := by decide +kernel
theorem d137_3 : decode prog_8_method_18_code 3 = .ok (.ifCond .eq 26, 3) := by decide +kernel
theorem d137_6 : decode prog_8_method_18_code 6 = .ok (.aload_n 0, 1) := by decide +kernel
theorem d137_7 : decode prog_8_method_18_code 7 = .ok (.invokevirtual 54, 3) := by decide +kernel
theorem k137_54_8 : xCa (xMo 137) 54 8 = some (1, 126, 0) := by decide +kernel
theorem n137_54 : xcn (xMo 137) 54 = some 0 := by decide +kernel
theorem d137_10 : decode prog_8_method_18_code 10 = .ok (.bipush 36, 2) := by decide +kernel
theorem d137_12 : decode prog_8_method_18_code 12 = .ok (.if_icmp .ne 17, 3) := by decide +kernel
theorem d137_15 : decode prog_8_method_18_code 15 = .ok (.sipush 256, 3) := by decide +kernel
theorem d137_18 : decode prog_8_method_18_code 18 = .ok (.istore_n 2, 1) := by decide +kernel
theorem d137_19 : decode prog_8_method_18_code 19 = .ok (.aload_n 0, 1) := by decide +kernel
theorem d137_20 : decode prog_8_method_18_code 20 = .ok (.dup, 1) := by decide +kernel
theorem d137_21 : decode prog_8_method_18_code 21 = .ok (.getfield 33, 3) := by decide +kernel
theorem f137_33 : xFd (xMo 137) 33 = some (8, 7) := by decide +kernel
theorem d137_24 : decode prog_8_method_18_code 24 = .ok (.iconst 1, 1) := by decide +kernel
theorem d137_25 : decode prog_8_method_18_code 25 = .ok (.iadd, 1) := by decide +kernel
theorem d137_26 : decode prog_8_method_18_code 26 = .ok (.putfield 33, 3) := by decide +kernel
theorem d137_29 : decode prog_8_method_18_code 29 = .ok (.aload_n 0, 1) := by decide +kernel
theorem d137_30 : decode prog_8_method_18_code 30 = .ok (.invokevirtual 54, 3) := by decide +kernel
theorem d137_33 : decode prog_8_method_18_code 33 = .ok (.istore_n 3, 1) := by decide +kernel
theorem d137_34 : decode prog_8_method_18_code 34 = .ok (.iload_n 3, 1) := by decide +kernel
theorem d137_35 : decode prog_8_method_18_code 35 = .ok (.bipush 65, 2) := by decide +kernel
theorem d137_37 : decode prog_8_method_18_code 37 = .ok (.if_icmp .lt 9, 3) := by decide +kernel
theorem d137_40 : decode prog_8_method_18_code 40 = .ok (.iload_n 3, 1) := by decide +kernel
theorem d137_41 : decode prog_8_method_18_code 41 = .ok (.bipush 74, 2) := by decide +kernel
theorem d137_43 : decode prog_8_method_18_code 43 = .ok (.if_icmp .le 5, 3) := by decide +kernel
theorem d137_46 : decode prog_8_method_18_code 46 = .ok (.iconst (-1), 1) := by decide +kernel
theorem d137_47 : decode prog_8_method_18_code 47 = .ok (.ireturn, 1) := by decide +kernel
theorem d137_48 : decode prog_8_method_18_code 48 = .ok (.aload_n 0, 1) := by decide +kernel
theorem d137_49 : decode prog_8_method_18_code 49 = .ok (.dup, 1) := by decide +kernel
theorem d137_50 : decode prog_8_method_18_code 50 = .ok (.getfield 33, 3) := by decide +kernel
theorem d137_53 : decode prog_8_method_18_code 53 = .ok (.iconst 1, 1) := by decide +kernel
theorem d137_54 : decode prog_8_method_18_code 54 = .ok (.iadd, 1) := by decide +kernel
theorem d137_55 : decode prog_8_method_18_code 55 = .ok (.putfield 33, 3) := by decide +kernel
theorem d137_58 : decode prog_8_method_18_code 58 = .ok (.iload_n 1, 1) := by decide +kernel
theorem d137_59 : decode prog_8_method_18_code 59 = .ok (.ifCond .eq 28, 3) := by decide +kernel
theorem d137_62 : decode prog_8_method_18_code 62 = .ok (.aload_n 0, 1) := by decide +kernel
theorem d137_63 : decode prog_8_method_18_code 63 = .ok (.invokevirtual 54, 3) := by decide +kernel
theorem d137_66 : decode prog_8_method_18_code 66 = .ok (.bipush 36, 2) := by decide +kernel
theorem d137_68 : decode prog_8_method_18_code 68 = .ok (.if_icmp .ne 19, 3) := by decide +kernel
theorem d137_71 : decode prog_8_method_18_code 71 = .ok (.iinc 2 512, 6) := by decide +kernel
theorem d137_77 : decode prog_8_method_18_code 77 = .ok (.aload_n 0, 1) := by decide +kernel
theorem d137_78 : decode prog_8_method_18_code 78 = .ok (.dup, 1) := by decide +kernel
theorem d137_79 : decode prog_8_method_18_code 79 = .ok (.getfield 33, 3) := by decide +kernel
theorem d137_82 : decode prog_8_method_18_code 82 = .ok (.iconst 1, 1) := by decide +kernel
theorem d137_83 : decode prog_8_method_18_code 83 = .ok (.iadd, 1) := by decide +kernel
theorem d137_84 : decode prog_8_method_18_code 84 = .ok (.putfield 33, 3) := by decide +kernel
theorem d137_87 : decode prog_8_method_18_code 87 = .ok (.aload_n 0, 1) := by decide +kernel
theorem d137_88 : decode prog_8_method_18_code 88 = .ok (.invokevirtual 54, 3) := by decide +kernel
theorem d137_91 : decode prog_8_method_18_code 91 = .ok (.istore 4, 2) := by decide +kernel
theorem d137_93 : decode prog_8_method_18_code 93 = .ok (.iload 4, 2) := by decide +kernel
theorem d137_95 : decode prog_8_method_18_code 95 = .ok (.bipush 49, 2) := by decide +kernel
theorem d137_97 : decode prog_8_method_18_code 97 = .ok (.if_icmp .lt 10, 3) := by decide +kernel
theorem d137_100 : decode prog_8_method_18_code 100 = .ok (.iload 4, 2) := by decide +kernel
theorem d137_102 : decode prog_8_method_18_code 102 = .ok (.bipush 57, 2) := by decide +kernel
theorem d137_104 : decode prog_8_method_18_code 104 = .ok (.if_icmp .le 5, 3) := by decide +kernel
theorem d137_107 : decode prog_8_method_18_code 107 = .ok (.iconst (-1), 1) := by decide +kernel
theorem d137_108 : decode prog_8_method_18_code 108 = .ok (.ireturn, 1) := by decide +kernel
theorem d137_109 : decode prog_8_method_18_code 109 = .ok (.aload_n 0, 1) := by decide +kernel
theorem d137_110 : decode prog_8_method_18_code 110 = .ok (.dup, 1) := by decide +kernel
theorem d137_111 : decode prog_8_method_18_code 111 = .ok (.getfield 33, 3) := by decide +kernel
theorem d137_114 : decode prog_8_method_18_code 114 = .ok (.iconst 1, 1) := by decide +kernel
theorem d137_115 : decode prog_8_method_18_code 115 = .ok (.iadd, 1) := by decide +kernel
theorem d137_116 : decode prog_8_method_18_code 116 = .ok (.putfield 33, 3) := by decide +kernel
theorem d137_119 : decode prog_8_method_18_code 119 = .ok (.iload 4, 2) := by decide +kernel
theorem d137_121 : decode prog_8_method_18_code 121 = .ok (.bipush 48, 2) := by decide +kernel
theorem d137_123 : decode prog_8_method_18_code 123 = .ok (.isub, 1) := by decide +kernel
theorem d137_124 : decode prog_8_method_18_code 124 = .ok (.istore 5, 2) := by decide +kernel
theorem d137_126 : decode prog_8_method_18_code 126 = .ok (.aload_n 0, 1) := by decide +kernel
theorem d137_127 : decode prog_8_method_18_code 127 = .ok (.invokevirtual 54, 3) := by decide +kernel
theorem d137_130 : decode prog_8_method_18_code 130 = .ok (.istore 6, 2) := by decide +kernel
theorem d137_132 : decode prog_8_method_18_code 132 = .ok (.iload 5, 2) := by decide +kernel
theorem d137_134 : decode prog_8_method_18_code 134 = .ok (.iconst 1, 1) := by decide +kernel
theorem d137_135 : decode prog_8_method_18_code 135 = .ok (.if_icmp .ne 11, 3) := by decide +kernel
theorem d137_138 : decode prog_8_method_18_code 138 = .ok (.iload 6, 2) := by decide +kernel
theorem d137_140 : decode prog_8_method_18_code 140 = .ok (.invokestatic 99, 3) := by decide +kernel
theorem k137_99_99 : xCa (xMo 137) 99 99 = some (0, 129, 1) := by decide +kernel
theorem d137_143 : decode prog_8_method_18_code 143 = .ok (.ifCond .ne 16, 3) := by decide +kernel
theorem d137_146 : decode prog_8_method_18_code 146 = .ok (.iload 5, 2) := by decide +kernel
theorem d137_148 : decode prog_8_method_18_code 148 = .ok (.iconst 2, 1) := by decide +kernel
theorem d137_149 : decode prog_8_method_18_code 149 = .ok (.if_icmp .ne 33, 3) := by decide +kernel
theorem d137_152 : decode prog_8_method_18_code 152 = .ok (.iload 6, 2) := by decide +kernel
theorem d137_154 : decode prog_8_method_18_code 154 = .ok (.bipush 48, 2) := by decide +kernel
theorem d137_156 : decode prog_8_method_18_code 156 = .ok (.if_icmp .ne 26, 3) := by decide +kernel
theorem d137_159 : decode prog_8_method_18_code 159 = .ok (.bipush 10, 2) := by decide +kernel
theorem d137_161 : decode prog_8_method_18_code 161 = .ok (.iload 5, 2) := by decide +kernel
theorem d137_163 : decode prog_8_method_18_code 163 = .ok (.imul, 1) := by decide +kernel
theorem d137_164 : decode prog_8_method_18_code 164 = .ok (.iload 6, 2) := by decide +kernel
theorem d137_166 : decode prog_8_method_18_code 166 = .ok (.bipush 48, 2) := by decide +kernel
theorem d137_168 : decode prog_8_method_18_code 168 = .ok (.isub, 1) := by decide +kernel
theorem d137_169 : decode prog_8_method_18_code 169 = .ok (.iadd, 1) := by decide +kernel
theorem d137_170 : decode prog_8_method_18_code 170 = .ok (.istore 5, 2) := by decide +kernel
theorem d137_172 : decode prog_8_method_18_code 172 = .ok (.aload_n 0, 1) := by decide +kernel
theorem d137_173 : decode prog_8_method_18_code 173 = .ok (.dup, 1) := by decide +kernel
theorem d137_174 : decode prog_8_method_18_code 174 = .ok (.getfield 33, 3) := by decide +kernel
theorem d137_177 : decode prog_8_method_18_code 177 = .ok (.iconst 1, 1) := by decide +kernel
theorem d137_178 : decode prog_8_method_18_code 178 = .ok (.iadd, 1) := by decide +kernel
theorem d137_179 : decode prog_8_method_18_code 179 = .ok (.putfield 33, 3) := by decide +kernel
theorem d137_182 : decode prog_8_method_18_code 182 = .ok (.iload_n 2, 1) := by decide +kernel
theorem d137_183 : decode prog_8_method_18_code 183 = .ok (.bipush 10, 2) := by decide +kernel
theorem d137_185 : decode prog_8_method_18_code 185 = .ok (.iload 5, 2) := by decide +kernel
theorem d137_187 : decode prog_8_method_18_code 187 = .ok (.iconst 1, 1) := by decide +kernel
theorem d137_188 : decode prog_8_method_18_code 188 = .ok (.isub, 1) := by decide +kernel
theorem d137_189 : decode prog_8_method_18_code 189 = .ok (.imul, 1) := by decide +kernel
theorem d137_190 : decode prog_8_method_18_code 190 = .ok (.iadd, 1) := by decide +kernel
theorem d137_191 : decode prog_8_method_18_code 191 = .ok (.iload_n 3, 1) := by decide +kernel
theorem d137_192 : decode prog_8_method_18_code 192 = .ok (.bipush 65, 2) := by decide +kernel
theorem d137_194 : decode prog_8_method_18_code 194 = .ok (.isub, 1) := by decide +kernel
theorem d137_195 : decode prog_8_method_18_code 195 = .ok (.iadd, 1) := by decide +kernel
theorem d137_196 : decode prog_8_method_18_code 196 = .ok (.ireturn, 1) := by decide +kernel
set_option maxRecDepth 100000 in
theorem q138 : xMc 138 = prog_8_method_12_code := rfl
theorem m138 : xMl 138 = 2 ∧ xMret 138 = (some FieldType.boolean) ∧ xMh 138 = [] := by decide +kernel
theorem e138 {X : xX} {d : Nat} {w : xH} {Q : xO → xH → Prop} (a : Nat) : Cw X d 138 [.ref a] w Q = Wx X d 138 0 [some (.ref a), none] [] w Q := by
  unfold Cw
  rw [m138.1]
  rfl
theorem d138_0 : decode prog_8_method_12_code 0 = .ok (.aload_n 0, 1) := by decide +kernel
theorem d138_1 : decode prog_8_method_12_code 1 = .ok (.dup, 1) := by decide +kernel
theorem d138_2 : decode prog_8_method_12_code 2 = .ok (.getfield 33, 3) := by decide +kernel
theorem f138_33 : xFd (xMo 138) 33 = some (8, 7) := by decide +kernel
theorem d138_5 : decode prog_8_method_12_code 5 = .ok (.iconst 1, 1) := by decide +kernel
theorem d138_6 : decode prog_8_method_12_code 6 = .ok (.iadd, 1) := by decide +kernel
theorem d138_7 : decode prog_8_method_12_code 7 = .ok (.putfield 33, 3) := by decide +kernel
theorem d138_10 : decode prog_8_method_12_code 10 = .ok (.aload_n 0, 1) := by decide +kernel
theorem d138_11 : decode prog_8_method_12_code 11 = .ok (.iconst 1, 1) := by decide +kernel
theorem d138_12 : decode prog_8_method_12_code 12 = .ok (.invokevirtual 47, 3) := by decide +kernel
theorem k138_47_8 : xCa (xMo 138) 47 8 = some (1, 137, 1) := by decide +kernel
theorem n138_47 : xcn (xMo 138) 47 = some 1 := by decide +kernel
theorem d138_15 : decode prog_8_method_12_code 15 = .ok (.istore_n 1, 1) := by decide +kernel
theorem d138_16 : decode prog_8_method_12_code 16 = .ok (.iload_n 1, 1) := by decide +kernel
theorem d138_17 : decode prog_8_method_12_code 17 = .ok (.ifCond .lt 11, 3) := by decide +kernel
theorem d138_20 : decode prog_8_method_12_code 20 = .ok (.aload_n 0, 1) := by decide +kernel
theorem d138_21 : decode prog_8_method_12_code 21 = .ok (.getfield 82, 3) := by decide +kernel
theorem f138_82 : xFd (xMo 138) 82 = some (8, 6) := by decide +kernel
theorem d138_24 : decode prog_8_method_12_code 24 = .ok (.iconst 1, 1) := by decide +kernel
theorem d138_25 : decode prog_8_method_12_code 25 = .ok (.if_icmp .ge 5, 3) := by decide +kernel
theorem d138_28 : decode prog_8_method_12_code 28 = .ok (.iconst 0, 1) := by decide +kernel
theorem d138_29 : decode prog_8_method_12_code 29 = .ok (.ireturn, 1) := by decide +kernel
theorem d138_30 : decode prog_8_method_12_code 30 = .ok (.aload_n 0, 1) := by decide +kernel
theorem d138_31 : decode prog_8_method_12_code 31 = .ok (.getfield 15, 3) := by decide +kernel
theorem f138_15 : xFd (xMo 138) 15 = some (8, 5) := by decide +kernel
theorem d138_34 : decode prog_8_method_12_code 34 = .ok (.aload_n 0, 1) := by decide +kernel
theorem d138_35 : decode prog_8_method_12_code 35 = .ok (.getfield 82, 3) := by decide +kernel
theorem d138_38 : decode prog_8_method_12_code 38 = .ok (.iconst 1, 1) := by decide +kernel
theorem d138_39 : decode prog_8_method_12_code 39 = .ok (.isub, 1) := by decide +kernel
theorem d138_40 : decode prog_8_method_12_code 40 = .ok (.aload_n 0, 1) := by decide +kernel
theorem d138_41 : decode prog_8_method_12_code 41 = .ok (.getfield 15, 3) := by decide +kernel
theorem d138_44 : decode prog_8_method_12_code 44 = .ok (.aload_n 0, 1) := by decide +kernel
theorem d138_45 : decode prog_8_method_12_code 45 = .ok (.getfield 82, 3) := by decide +kernel
theorem d138_48 : decode prog_8_method_12_code 48 = .ok (.iconst 1, 1) := by decide +kernel
theorem d138_49 : decode prog_8_method_12_code 49 = .ok (.isub, 1) := by decide +kernel
theorem d138_50 : decode prog_8_method_12_code 50 = .ok (.iaload, 1) := by decide +kernel
theorem d138_51 : decode prog_8_method_12_code 51 = .ok (.invokestatic 135, 3) := by decide +kernel
theorem k138_135_99 : xCa (xMo 138) 135 99 = some (0, 169, 1) := by decide +kernel
theorem d138_54 : decode prog_8_method_12_code 54 = .ok (.iload_n 1, 1) := by decide +kernel
theorem d138_55 : decode prog_8_method_12_code 55 = .ok (.invokestatic 139, 3) := by decide +kernel
theorem k138_139_99 : xCa (xMo 138) 139 99 = some (0, 170, 2) := by decide +kernel
theorem d138_58 : decode prog_8_method_12_code 58 = .ok (.iastore, 1) := by decide +kernel
theorem d138_59 : decode prog_8_method_12_code 59 = .ok (.aload_n 0, 1) := by decide +kernel
theorem d138_60 : decode prog_8_method_12_code 60 = .ok (.iconst 4, 1) := by decide +kernel
theorem d138_61 : decode prog_8_method_12_code 61 = .ok (.putfield 67, 3) := by decide +kernel
theorem f138_67 : xFd (xMo 138) 67 = some (8, 8) := by decide +kernel
theorem d138_64 : decode prog_8_method_12_code 64 = .ok (.iconst 1, 1) := by decide +kernel
theorem d138_65 : decode prog_8_method_12_code 65 = .ok (.ireturn, 1) := by decide +kernel
set_option maxRecDepth 100000 in
theorem q139 : xMc 139 = prog_8_method_13_code := rfl
theorem m139 : xMl 139 = 3 ∧ xMret 139 = (some FieldType.boolean) ∧ xMh 139 = [] := by decide +kernel
theorem e139 {X : xX} {d : Nat} {w : xH} {Q : xO → xH → Prop} (a : Nat) : Cw X d 139 [.ref a] w Q = Wx X d 139 0 [some (.ref a), none, none] [] w Q := by
  unfold Cw
  rw [m139.1]
  rfl
theorem d139_0 : decode prog_8_method_13_code 0 = .ok (.aload_n 0, 1) := by decide +kernel
theorem d139_1 : decode prog_8_method_13_code 1 = .ok (.invokevirtual 54, 3) := by decide +kernel
theorem k139_54_8 : xCa (xMo 139) 54 8 = some (1, 126, 0) := by decide +kernel
theorem n139_54 : xcn (xMo 139) 54 = some 0 := by decide +kernel
theorem d139_4 : decode prog_8_method_13_code 4 = .ok (.istore_n 1, 1) := by decide +kernel
theorem d139_5 : decode prog_8_method_13_code 5 = .ok (.iload_n 1, 1) := by decide +kernel
theorem d139_6 : decode prog_8_method_13_code 6 = .ok (.bipush 41, 2) := by decide +kernel
theorem d139_8 : decode prog_8_method_13_code 8 = .ok (.if_icmp .ne 11, 3) := by decide +kernel
theorem d139_11 : decode prog_8_method_13_code 11 = .ok (.aload_n 0, 1) := by decide +kernel
theorem d139_12 : decode prog_8_method_13_code 12 = .ok (.invokevirtual 142, 3) := by decide +kernel
theorem k139_142_8 : xCa (xMo 139) 142 8 = some (1, 140, 0) := by decide +kernel
theorem n139_142 : xcn (xMo 139) 142 = some 0 := by decide +kernel
theorem d139_15 : decode prog_8_method_13_code 15 = .ok (.istore_n 2, 1) := by decide +kernel
theorem d139_16 : decode prog_8_method_13_code 16 = .ok (.goto 39, 3) := by decide +kernel
theorem d139_19 : decode prog_8_method_13_code 19 = .ok (.iload_n 1, 1) := by decide +kernel
theorem d139_20 : decode prog_8_method_13_code 20 = .ok (.bipush 44, 2) := by decide +kernel
theorem d139_22 : decode prog_8_method_13_code 22 = .ok (.if_icmp .ne 11, 3) := by decide +kernel
theorem d139_25 : decode prog_8_method_13_code 25 = .ok (.aload_n 0, 1) := by decide +kernel
theorem d139_26 : decode prog_8_method_13_code 26 = .ok (.invokevirtual 145, 3) := by decide +kernel
theorem k139_145_8 : xCa (xMo 139) 145 8 = some (1, 141, 0) := by decide +kernel
theorem n139_145 : xcn (xMo 139) 145 = some 0 := by decide +kernel
theorem d139_29 : decode prog_8_method_13_code 29 = .ok (.istore_n 2, 1) := by decide +kernel
theorem d139_30 : decode prog_8_method_13_code 30 = .ok (.goto 25, 3) := by decide +kernel
theorem d139_33 : decode prog_8_method_13_code 33 = .ok (.aload_n 0, 1) := by decide +kernel
theorem d139_34 : decode prog_8_method_13_code 34 = .ok (.getfield 67, 3) := by decide +kernel
theorem f139_67 : xFd (xMo 139) 67 = some (8, 8) := by decide +kernel
theorem d139_37 : decode prog_8_method_13_code 37 = .ok (.iconst 4, 1) := by decide +kernel
theorem d139_38 : decode prog_8_method_13_code 38 = .ok (.if_icmp .eq 15, 3) := by decide +kernel
theorem d139_41 : decode prog_8_method_13_code 41 = .ok (.aload_n 0, 1) := by decide +kernel
theorem d139_42 : decode prog_8_method_13_code 42 = .ok (.iload_n 1, 1) := by decide +kernel
theorem d139_43 : decode prog_8_method_13_code 43 = .ok (.invokevirtual 148, 3) := by decide +kernel
theorem k139_148_8 : xCa (xMo 139) 148 8 = some (1, 142, 1) := by decide +kernel
theorem n139_148 : xcn (xMo 139) 148 = some 1 := by decide +kernel
theorem d139_46 : decode prog_8_method_13_code 46 = .ok (.ifCond .eq 7, 3) := by decide +kernel
theorem d139_49 : decode prog_8_method_13_code 49 = .ok (.iconst 1, 1) := by decide +kernel
theorem d139_50 : decode prog_8_method_13_code 50 = .ok (.goto 4, 3) := by decide +kernel
theorem d139_53 : decode prog_8_method_13_code 53 = .ok (.iconst 0, 1) := by decide +kernel
theorem d139_54 : decode prog_8_method_13_code 54 = .ok (.istore_n 2, 1) := by decide +kernel
theorem d139_55 : decode prog_8_method_13_code 55 = .ok (.iload_n 2, 1) := by decide +kernel
theorem d139_56 : decode prog_8_method_13_code 56 = .ok (.ifCond .eq 8, 3) := by decide +kernel
theorem d139_59 : decode prog_8_method_13_code 59 = .ok (.aload_n 0, 1) := by decide +kernel
theorem d139_60 : decode prog_8_method_13_code 60 = .ok (.iload_n 1, 1) := by decide +kernel
theorem d139_61 : decode prog_8_method_13_code 61 = .ok (.invokevirtual 91, 3) := by decide +kernel
theorem k139_91_8 : xCa (xMo 139) 91 8 = some (1, 131, 1) := by decide +kernel
theorem n139_91 : xcn (xMo 139) 91 = some 1 := by decide +kernel
theorem d139_64 : decode prog_8_method_13_code 64 = .ok (.iload_n 2, 1) := by decide +kernel
theorem d139_65 : decode prog_8_method_13_code 65 = .ok (.ireturn, 1) := by decide +kernel
set_option maxRecDepth 100000 in
theorem q140 : xMc 140 = prog_8_method_14_code := rfl
theorem m140 : xMl 140 = 1 ∧ xMret 140 = (some FieldType.boolean) ∧ xMh 140 = [] := by decide +kernel
theorem e140 {X : xX} {d : Nat} {w : xH} {Q : xO → xH → Prop} (a : Nat) : Cw X d 140 [.ref a] w Q = Wx X d 140 0 [some (.ref a)] [] w Q := by
  unfold Cw
  rw [m140.1]
  rfl
theorem d140_0 : decode prog_8_method_14_code 0 = .ok (.aload_n 0, 1) := by decide +kernel
theorem d140_1 : decode prog_8_method_14_code 1 = .ok (.getfield 73, 3) := by decide +kernel
theorem f140_73 : xFd (xMo 140) 73 = some (8, 12) := by decide +kernel
theorem d140_4 : decode prog_8_method_14_code 4 = .ok (.iconst 1, 1) := by decide +kernel
theorem d140_5 : decode prog_8_method_14_code 5 = .ok (.if_icmp .lt 29, 3) := by decide +kernel
theorem d140_8 : decode prog_8_method_14_code 8 = .ok (.aload_n 0, 1) := by decide +kernel
theorem d140_9 : decode prog_8_method_14_code 9 = .ok (.getfield 19, 3) := by decide +kernel
theorem f140_19 : xFd (xMo 140) 19 = some (8, 9) := by decide +kernel
theorem d140_12 : decode prog_8_method_14_code 12 = .ok (.aload_n 0, 1) := by decide +kernel
theorem d140_13 : decode prog_8_method_14_code 13 = .ok (.getfield 73, 3) := by decide +kernel
theorem d140_16 : decode prog_8_method_14_code 16 = .ok (.iaload, 1) := by decide +kernel
theorem d140_17 : decode prog_8_method_14_code 17 = .ok (.iconst 5, 1) := by decide +kernel
theorem d140_18 : decode prog_8_method_14_code 18 = .ok (.if_icmp .ne 18, 3) := by decide +kernel
theorem d140_21 : decode prog_8_method_14_code 21 = .ok (.aload_n 0, 1) := by decide +kernel
theorem d140_22 : decode prog_8_method_14_code 22 = .ok (.getfield 22, 3) := by decide +kernel
theorem f140_22 : xFd (xMo 140) 22 = some (8, 10) := by decide +kernel
theorem d140_25 : decode prog_8_method_14_code 25 = .ok (.aload_n 0, 1) := by decide +kernel
theorem d140_26 : decode prog_8_method_14_code 26 = .ok (.getfield 73, 3) := by decide +kernel
theorem d140_29 : decode prog_8_method_14_code 29 = .ok (.iaload, 1) := by decide +kernel
theorem d140_30 : decode prog_8_method_14_code 30 = .ok (.iconst 3, 1) := by decide +kernel
theorem d140_31 : decode prog_8_method_14_code 31 = .ok (.if_icmp .ge 5, 3) := by decide +kernel
theorem d140_34 : decode prog_8_method_14_code 34 = .ok (.iconst 0, 1) := by decide +kernel
theorem d140_35 : decode prog_8_method_14_code 35 = .ok (.ireturn, 1) := by decide +kernel
theorem d140_36 : decode prog_8_method_14_code 36 = .ok (.aload_n 0, 1) := by decide +kernel
theorem d140_37 : decode prog_8_method_14_code 37 = .ok (.dup, 1) := by decide +kernel
theorem d140_38 : decode prog_8_method_14_code 38 = .ok (.getfield 73, 3) := by decide +kernel
theorem d140_41 : decode prog_8_method_14_code 41 = .ok (.iconst 1, 1) := by decide +kernel
theorem d140_42 : decode prog_8_method_14_code 42 = .ok (.isub, 1) := by decide +kernel
theorem d140_43 : decode prog_8_method_14_code 43 = .ok (.putfield 73, 3) := by decide +kernel
theorem d140_46 : decode prog_8_method_14_code 46 = .ok (.aload_n 0, 1) := by decide +kernel
theorem d140_47 : decode prog_8_method_14_code 47 = .ok (.iconst 2, 1) := by decide +kernel
theorem d140_48 : decode prog_8_method_14_code 48 = .ok (.putfield 67, 3) := by decide +kernel
theorem f140_67 : xFd (xMo 140) 67 = some (8, 8) := by decide +kernel
theorem d140_51 : decode prog_8_method_14_code 51 = .ok (.iconst 1, 1) := by decide +kernel
theorem d140_52 : decode prog_8_method_14_code 52 = .ok (.ireturn, 1) := by decide +kernel
set_option maxRecDepth 100000 in
theorem q141 : xMc 141 = prog_8_method_15_code := rfl
theorem m141 : xMl 141 = 2 ∧ xMret 141 = (some FieldType.boolean) ∧ xMh 141 = [] := by decide +kernel
theorem e141 {X : xX} {d : Nat} {w : xH} {Q : xO → xH → Prop} (a : Nat) : Cw X d 141 [.ref a] w Q = Wx X d 141 0 [some (.ref a), none] [] w Q := by
  unfold Cw
  rw [m141.1]
  rfl
theorem d141_0 : decode prog_8_method_15_code 0 = .ok (.aload_n 0, 1) := by decide +kernel
theorem d141_1 : decode prog_8_method_15_code 1 = .ok (.getfield 19, 3) := by decide +kernel
theorem f141_19 : xFd (xMo 141) 19 = some (8, 9) := by decide +kernel
theorem d141_4 : decode prog_8_method_15_code 4 = .ok (.aload_n 0, 1) := by decide +kernel
theorem d141_5 : decode prog_8_method_15_code 5 = .ok (.getfield 73, 3) := by decide +kernel
theorem f141_73 : xFd (xMo 141) 73 = some (8, 12) := by decide +kernel
theorem d141_8 : decode prog_8_method_15_code 8 = .ok (.iaload, 1) := by decide +kernel
theorem d141_9 : decode prog_8_method_15_code 9 = .ok (.istore_n 1, 1) := by decide +kernel
theorem d141_10 : decode prog_8_method_15_code 10 = .ok (.iload_n 1, 1) := by decide +kernel
theorem d141_11 : decode prog_8_method_15_code 11 = .ok (.iconst 3, 1) := by decide +kernel
theorem d141_12 : decode prog_8_method_15_code 12 = .ok (.if_icmp .le 23, 3) := by decide +kernel
theorem d141_15 : decode prog_8_method_15_code 15 = .ok (.iload_n 1, 1) := by decide +kernel
theorem d141_16 : decode prog_8_method_15_code 16 = .ok (.iconst 5, 1) := by decide +kernel
theorem d141_17 : decode prog_8_method_15_code 17 = .ok (.if_icmp .ne 16, 3) := by decide +kernel
theorem d141_20 : decode prog_8_method_15_code 20 = .ok (.aload_n 0, 1) := by decide +kernel
theorem d141_21 : decode prog_8_method_15_code 21 = .ok (.getfield 22, 3) := by decide +kernel
theorem f141_22 : xFd (xMo 141) 22 = some (8, 10) := by decide +kernel
theorem d141_24 : decode prog_8_method_15_code 24 = .ok (.aload_n 0, 1) := by decide +kernel
theorem d141_25 : decode prog_8_method_15_code 25 = .ok (.getfield 73, 3) := by decide +kernel
theorem d141_28 : decode prog_8_method_15_code 28 = .ok (.iaload, 1) := by decide +kernel
theorem d141_29 : decode prog_8_method_15_code 29 = .ok (.iconst 3, 1) := by decide +kernel
theorem d141_30 : decode prog_8_method_15_code 30 = .ok (.if_icmp .lt 5, 3) := by decide +kernel
theorem d141_33 : decode prog_8_method_15_code 33 = .ok (.iconst 0, 1) := by decide +kernel
theorem d141_34 : decode prog_8_method_15_code 34 = .ok (.ireturn, 1) := by decide +kernel
theorem d141_35 : decode prog_8_method_15_code 35 = .ok (.aload_n 0, 1) := by decide +kernel
theorem d141_36 : decode prog_8_method_15_code 36 = .ok (.getfield 22, 3) := by decide +kernel
theorem d141_39 : decode prog_8_method_15_code 39 = .ok (.aload_n 0, 1) := by decide +kernel
theorem d141_40 : decode prog_8_method_15_code 40 = .ok (.getfield 73, 3) := by decide +kernel
theorem d141_43 : decode prog_8_method_15_code 43 = .ok (.dup2, 1) := by decide +kernel
theorem d141_44 : decode prog_8_method_15_code 44 = .ok (.iaload, 1) := by decide +kernel
theorem d141_45 : decode prog_8_method_15_code 45 = .ok (.iconst 1, 1) := by decide +kernel
theorem d141_46 : decode prog_8_method_15_code 46 = .ok (.iadd, 1) := by decide +kernel
theorem d141_47 : decode prog_8_method_15_code 47 = .ok (.iastore, 1) := by decide +kernel
theorem d141_48 : decode prog_8_method_15_code 48 = .ok (.aload_n 0, 1) := by decide +kernel
theorem d141_49 : decode prog_8_method_15_code 49 = .ok (.getfield 25, 3) := by decide +kernel
theorem f141_25 : xFd (xMo 141) 25 = some (8, 11) := by decide +kernel
theorem d141_52 : decode prog_8_method_15_code 52 = .ok (.aload_n 0, 1) := by decide +kernel
theorem d141_53 : decode prog_8_method_15_code 53 = .ok (.getfield 73, 3) := by decide +kernel
theorem d141_56 : decode prog_8_method_15_code 56 = .ok (.iconst 0, 1) := by decide +kernel
theorem d141_57 : decode prog_8_method_15_code 57 = .ok (.bastore, 1) := by decide +kernel
theorem d141_58 : decode prog_8_method_15_code 58 = .ok (.aload_n 0, 1) := by decide +kernel
theorem d141_59 : decode prog_8_method_15_code 59 = .ok (.iload_n 1, 1) := by decide +kernel
theorem d141_60 : decode prog_8_method_15_code 60 = .ok (.iconst 3, 1) := by decide +kernel
theorem d141_61 : decode prog_8_method_15_code 61 = .ok (.if_icmp .gt 7, 3) := by decide +kernel
theorem d141_64 : decode prog_8_method_15_code 64 = .ok (.iconst 1, 1) := by decide +kernel
theorem d141_65 : decode prog_8_method_15_code 65 = .ok (.goto 4, 3) := by decide +kernel
theorem d141_68 : decode prog_8_method_15_code 68 = .ok (.iconst 0, 1) := by decide +kernel
theorem d141_69 : decode prog_8_method_15_code 69 = .ok (.putfield 67, 3) := by decide +kernel
theorem f141_67 : xFd (xMo 141) 67 = some (8, 8) := by decide +kernel
theorem d141_72 : decode prog_8_method_15_code 72 = .ok (.iconst 1, 1) := by decide +kernel
theorem d141_73 : decode prog_8_method_15_code 73 = .ok (.ireturn, 1) := by decide +kernel
set_option maxRecDepth 100000 in
theorem q142 : xMc 142 = prog_8_method_16_code := rfl
theorem m142 : xMl 142 = 2 ∧ xMret 142 = (some FieldType.boolean) ∧ xMh 142 = [] := by decide +kernel
theorem e142 {X : xX} {d : Nat} {w : xH} {Q : xO → xH → Prop} (a : Nat) (x0 : Int32) : Cw X d 142 [.ref a, .int x0] w Q = Wx X d 142 0 [some (.ref a), some (.int x0)] [] w Q := by
  unfold Cw
  rw [m142.1]
  rfl
theorem d142_0 : decode prog_8_method_16_code 0 = .ok (.iload_n 1, 1) := by decide +kernel
theorem d142_1 : decode prog_8_method_16_code 1 = .ok (.bipush 60, 2) := by decide +kernel
theorem d142_3 : decode prog_8_method_16_code 3 = .ok (.if_icmp .eq 15, 3) := by decide +kernel
theorem d142_6 : decode prog_8_method_16_code 6 = .ok (.iload_n 1, 1) := by decide +kernel
theorem d142_7 : decode prog_8_method_16_code 7 = .ok (.bipush 62, 2) := by decide +kernel
theorem d142_9 : decode prog_8_method_16_code 9 = .ok (.if_icmp .eq 9, 3) := by decide +kernel
theorem d142_12 : decode prog_8_method_16_code 12 = .ok (.iload_n 1, 1) := by decide +kernel
theorem d142_13 : decode prog_8_method_16_code 13 = .ok (.bipush 61, 2) := by decide +kernel
theorem d142_15 : decode prog_8_method_16_code 15 = .ok (.if_icmp .ne 30, 3) := by decide +kernel
theorem d142_18 : decode prog_8_method_16_code 18 = .ok (.aload_n 0, 1) := by decide +kernel
theorem d142_19 : decode prog_8_method_16_code 19 = .ok (.getfield 25, 3) := by decide +kernel
theorem f142_25 : xFd (xMo 142) 25 = some (8, 11) := by decide +kernel
theorem d142_22 : decode prog_8_method_16_code 22 = .ok (.aload_n 0, 1) := by decide +kernel
theorem d142_23 : decode prog_8_method_16_code 23 = .ok (.getfield 73, 3) := by decide +kernel
theorem f142_73 : xFd (xMo 142) 73 = some (8, 12) := by decide +kernel
theorem d142_26 : decode prog_8_method_16_code 26 = .ok (.baload, 1) := by decide +kernel
theorem d142_27 : decode prog_8_method_16_code 27 = .ok (.ifCond .eq 5, 3) := by decide +kernel
theorem d142_30 : decode prog_8_method_16_code 30 = .ok (.iconst 0, 1) := by decide +kernel
theorem d142_31 : decode prog_8_method_16_code 31 = .ok (.ireturn, 1) := by decide +kernel
theorem d142_32 : decode prog_8_method_16_code 32 = .ok (.aload_n 0, 1) := by decide +kernel
theorem d142_33 : decode prog_8_method_16_code 33 = .ok (.getfield 25, 3) := by decide +kernel
theorem d142_36 : decode prog_8_method_16_code 36 = .ok (.aload_n 0, 1) := by decide +kernel
theorem d142_37 : decode prog_8_method_16_code 37 = .ok (.getfield 73, 3) := by decide +kernel
theorem d142_40 : decode prog_8_method_16_code 40 = .ok (.iconst 1, 1) := by decide +kernel
theorem d142_41 : decode prog_8_method_16_code 41 = .ok (.bastore, 1) := by decide +kernel
theorem d142_42 : decode prog_8_method_16_code 42 = .ok (.goto 29, 3) := by decide +kernel
theorem d142_45 : decode prog_8_method_16_code 45 = .ok (.iload_n 1, 1) := by decide +kernel
theorem d142_46 : decode prog_8_method_16_code 46 = .ok (.bipush 43, 2) := by decide +kernel
theorem d142_48 : decode prog_8_method_16_code 48 = .ok (.if_icmp .eq 23, 3) := by decide +kernel
theorem d142_51 : decode prog_8_method_16_code 51 = .ok (.iload_n 1, 1) := by decide +kernel
theorem d142_52 : decode prog_8_method_16_code 52 = .ok (.bipush 45, 2) := by decide +kernel
theorem d142_54 : decode prog_8_method_16_code 54 = .ok (.if_icmp .eq 17, 3) := by decide +kernel
theorem d142_57 : decode prog_8_method_16_code 57 = .ok (.iload_n 1, 1) := by decide +kernel
theorem d142_58 : decode prog_8_method_16_code 58 = .ok (.bipush 42, 2) := by decide +kernel
theorem d142_60 : decode prog_8_method_16_code 60 = .ok (.if_icmp .eq 11, 3) := by decide +kernel
theorem d142_63 : decode prog_8_method_16_code 63 = .ok (.iload_n 1, 1) := by decide +kernel
theorem d142_64 : decode prog_8_method_16_code 64 = .ok (.bipush 47, 2) := by decide +kernel
theorem d142_66 : decode prog_8_method_16_code 66 = .ok (.if_icmp .eq 5, 3) := by decide +kernel
theorem d142_69 : decode prog_8_method_16_code 69 = .ok (.iconst 0, 1) := by decide +kernel
theorem d142_70 : decode prog_8_method_16_code 70 = .ok (.ireturn, 1) := by decide +kernel
theorem d142_71 : decode prog_8_method_16_code 71 = .ok (.aload_n 0, 1) := by decide +kernel
theorem d142_72 : decode prog_8_method_16_code 72 = .ok (.iconst 0, 1) := by decide +kernel
theorem d142_73 : decode prog_8_method_16_code 73 = .ok (.putfield 67, 3) := by decide +kernel
theorem f142_67 : xFd (xMo 142) 67 = some (8, 8) := by decide +kernel
theorem d142_76 : decode prog_8_method_16_code 76 = .ok (.iconst 1, 1) := by decide +kernel
theorem d142_77 : decode prog_8_method_16_code 77 = .ok (.ireturn, 1) := by decide +kernel
set_option maxRecDepth 100000 in
theorem q143 : xMc 143 = prog_8_method_5_code := rfl
theorem m143 : xMl 143 = 2 ∧ xMret 143 = (some FieldType.int) ∧ xMh 143 = [] := by decide +kernel
theorem e143 {X : xX} {d : Nat} {w : xH} {Q : xO → xH → Prop} (a : Nat) : Cw X d 143 [.ref a] w Q = Wx X d 143 0 [some (.ref a), none] [] w Q := by
  unfold Cw
  rw [m143.1]
  rfl
theorem d143_0 : decode prog_8_method_5_code 0 = .ok (.aload_n 0, 1) := by decide +kernel
theorem d143_1 : decode prog_8_method_5_code 1 = .ok (.invokevirtual 36, 3) := by decide +kernel
theorem k143_36_8 : xCa (xMo 143) 36 8 = some (1, 123, 0) := by decide +kernel
theorem n143_36 : xcn (xMo 143) 36 = some 0 := by decide +kernel
theorem d143_4 : decode prog_8_method_5_code 4 = .ok (.iconst 0, 1) := by decide +kernel
theorem d143_5 : decode prog_8_method_5_code 5 = .ok (.istore_n 1, 1) := by decide +kernel
theorem d143_6 : decode prog_8_method_5_code 6 = .ok (.iload_n 1, 1) := by decide +kernel
theorem d143_7 : decode prog_8_method_5_code 7 = .ok (.bipush 60, 2) := by decide +kernel
theorem d143_9 : decode prog_8_method_5_code 9 = .ok (.if_icmp .ge 32, 3) := by decide +kernel
theorem d143_12 : decode prog_8_method_5_code 12 = .ok (.aload_n 0, 1) := by decide +kernel
theorem d143_13 : decode prog_8_method_5_code 13 = .ok (.getfield 33, 3) := by decide +kernel
theorem f143_33 : xFd (xMo 143) 33 = some (8, 7) := by decide +kernel
theorem d143_16 : decode prog_8_method_5_code 16 = .ok (.aload_n 0, 1) := by decide +kernel
theorem d143_17 : decode prog_8_method_5_code 17 = .ok (.getfield 29, 3) := by decide +kernel
theorem f143_29 : xFd (xMo 143) 29 = some (8, 1) := by decide +kernel
theorem d143_20 : decode prog_8_method_5_code 20 = .ok (.if_icmp .ge 21, 3) := by decide +kernel
theorem d143_23 : decode prog_8_method_5_code 23 = .ok (.aload_n 0, 1) := by decide +kernel
theorem d143_24 : decode prog_8_method_5_code 24 = .ok (.invokevirtual 43, 3) := by decide +kernel
theorem k143_43_8 : xCa (xMo 143) 43 8 = some (1, 144, 0) := by decide +kernel
theorem n143_43 : xcn (xMo 143) 43 = some 0 := by decide +kernel
theorem d143_27 : decode prog_8_method_5_code 27 = .ok (.ifCond .ne 8, 3) := by decide +kernel
theorem d143_30 : decode prog_8_method_5_code 30 = .ok (.aload_n 0, 1) := by decide +kernel
theorem d143_31 : decode prog_8_method_5_code 31 = .ok (.getfield 33, 3) := by decide +kernel
theorem d143_34 : decode prog_8_method_5_code 34 = .ok (.ireturn, 1) := by decide +kernel
theorem d143_35 : decode prog_8_method_5_code 35 = .ok (.iinc 1 1, 3) := by decide +kernel
theorem d143_38 : decode prog_8_method_5_code 38 = .ok (.goto (-32), 3) := by decide +kernel
theorem d143_41 : decode prog_8_method_5_code 41 = .ok (.iconst (-1), 1) := by decide +kernel
theorem d143_42 : decode prog_8_method_5_code 42 = .ok (.ireturn, 1) := by decide +kernel
set_option maxRecDepth 100000 in
theorem q144 : xMc 144 = prog_8_method_6_code := rfl
theorem m144 : xMl 144 = 1 ∧ xMret 144 = (some FieldType.boolean) ∧ xMh 144 = [] := by decide +kernel
theorem e144 {X : xX} {d : Nat} {w : xH} {Q : xO → xH → Prop} (a : Nat) : Cw X d 144 [.ref a] w Q = Wx X d 144 0 [some (.ref a)] [] w Q := by
  unfold Cw
  rw [m144.1]
  rfl
theorem d144_0 : decode prog_8_method_6_code 0 = .ok (.aload_n 0, 1) := by decide +kernel
theorem d144_1 : decode prog_8_method_6_code 1 = .ok (.aload_n 0, 1) := by decide +kernel
theorem d144_2 : decode prog_8_method_6_code 2 = .ok (.iconst 0, 1) := by decide +kernel
theorem d144_3 : decode prog_8_method_6_code 3 = .ok (.invokevirtual 47, 3) := by decide +kernel
theorem k144_47_8 : xCa (xMo 144) 47 8 = some (1, 137, 1) := by decide +kernel
theorem n144_47 : xcn (xMo 144) 47 = some 1 := by decide +kernel
theorem d144_6 : decode prog_8_method_6_code 6 = .ok (.putfield 51, 3) := by decide +kernel
theorem f144_51 : xFd (xMo 144) 51 = some (8, 2) := by decide +kernel
theorem d144_9 : decode prog_8_method_6_code 9 = .ok (.aload_n 0, 1) := by decide +kernel
theorem d144_10 : decode prog_8_method_6_code 10 = .ok (.getfield 51, 3) := by decide +kernel
theorem d144_13 : decode prog_8_method_6_code 13 = .ok (.ifCond .lt 12, 3) := by decide +kernel
theorem d144_16 : decode prog_8_method_6_code 16 = .ok (.aload_n 0, 1) := by decide +kernel
theorem d144_17 : decode prog_8_method_6_code 17 = .ok (.invokevirtual 54, 3) := by decide +kernel
theorem k144_54_8 : xCa (xMo 144) 54 8 = some (1, 126, 0) := by decide +kernel
theorem n144_54 : xcn (xMo 144) 54 = some 0 := by decide +kernel
theorem d144_20 : decode prog_8_method_6_code 20 = .ok (.bipush 58, 2) := by decide +kernel
theorem d144_22 : decode prog_8_method_6_code 22 = .ok (.if_icmp .eq 5, 3) := by decide +kernel
theorem d144_25 : decode prog_8_method_6_code 25 = .ok (.iconst 0, 1) := by decide +kernel
theorem d144_26 : decode prog_8_method_6_code 26 = .ok (.ireturn, 1) := by decide +kernel
theorem d144_27 : decode prog_8_method_6_code 27 = .ok (.aload_n 0, 1) := by decide +kernel
theorem d144_28 : decode prog_8_method_6_code 28 = .ok (.dup, 1) := by decide +kernel
theorem d144_29 : decode prog_8_method_6_code 29 = .ok (.getfield 33, 3) := by decide +kernel
theorem f144_33 : xFd (xMo 144) 33 = some (8, 7) := by decide +kernel
theorem d144_32 : decode prog_8_method_6_code 32 = .ok (.iconst 1, 1) := by decide +kernel
theorem d144_33 : decode prog_8_method_6_code 33 = .ok (.iadd, 1) := by decide +kernel
theorem d144_34 : decode prog_8_method_6_code 34 = .ok (.putfield 33, 3) := by decide +kernel
theorem d144_37 : decode prog_8_method_6_code 37 = .ok (.aload_n 0, 1) := by decide +kernel
theorem d144_38 : decode prog_8_method_6_code 38 = .ok (.bipush 59, 2) := by decide +kernel
theorem d144_40 : decode prog_8_method_6_code 40 = .ok (.invokevirtual 39, 3) := by decide +kernel
theorem k144_39_8 : xCa (xMo 144) 39 8 = some (1, 124, 1) := by decide +kernel
theorem n144_39 : xcn (xMo 144) 39 = some 1 := by decide +kernel
theorem d144_43 : decode prog_8_method_6_code 43 = .ok (.ifCond .ne 5, 3) := by decide +kernel
theorem d144_46 : decode prog_8_method_6_code 46 = .ok (.iconst 0, 1) := by decide +kernel
theorem d144_47 : decode prog_8_method_6_code 47 = .ok (.ireturn, 1) := by decide +kernel
theorem d144_48 : decode prog_8_method_6_code 48 = .ok (.aload_n 0, 1) := by decide +kernel
theorem d144_49 : decode prog_8_method_6_code 49 = .ok (.dup, 1) := by decide +kernel
theorem d144_50 : decode prog_8_method_6_code 50 = .ok (.getfield 33, 3) := by decide +kernel
theorem d144_53 : decode prog_8_method_6_code 53 = .ok (.iconst 1, 1) := by decide +kernel
theorem d144_54 : decode prog_8_method_6_code 54 = .ok (.iadd, 1) := by decide +kernel
theorem d144_55 : decode prog_8_method_6_code 55 = .ok (.putfield 33, 3) := by decide +kernel
theorem d144_58 : decode prog_8_method_6_code 58 = .ok (.iconst 1, 1) := by decide +kernel
theorem d144_59 : decode prog_8_method_6_code 59 = .ok (.ireturn, 1) := by decide +kernel
set_option maxRecDepth 100000 in
theorem q145 : xMc 145 = prog_8_method_2_code := rfl
theorem m145 : xMl 145 = 2 ∧ xMret 145 = none ∧ xMh 145 = [] := by decide +kernel
theorem e145 {X : xX} {d : Nat} {w : xH} {Q : xO → xH → Prop} (a : Nat) (x0 : Int32) : Cw X d 145 [.ref a, .int x0] w Q = Wx X d 145 0 [some (.ref a), some (.int x0)] [] w Q := by
  unfold Cw
  rw [m145.1]
  rfl
theorem d145_0 : decode prog_8_method_2_code 0 = .ok (.aload_n 0, 1) := by decide +kernel
theorem d145_1 : decode prog_8_method_2_code 1 = .ok (.getfield 29, 3) := by decide +kernel
theorem f145_29 : xFd (xMo 145) 29 = some (8, 1) := by decide +kernel
theorem d145_4 : decode prog_8_method_2_code 4 = .ok (.bipush 60, 2) := by decide +kernel
theorem d145_6 : decode prog_8_method_2_code 6 = .ok (.if_icmp .ge 23, 3) := by decide +kernel
theorem d145_9 : decode prog_8_method_2_code 9 = .ok (.aload_n 0, 1) := by decide +kernel
theorem d145_10 : decode prog_8_method_2_code 10 = .ok (.getfield 9, 3) := by decide +kernel
theorem f145_9 : xFd (xMo 145) 9 = some (8, 0) := by decide +kernel
theorem d145_13 : decode prog_8_method_2_code 13 = .ok (.aload_n 0, 1) := by decide +kernel
theorem d145_14 : decode prog_8_method_2_code 14 = .ok (.getfield 29, 3) := by decide +kernel
theorem d145_17 : decode prog_8_method_2_code 17 = .ok (.iload_n 1, 1) := by decide +kernel
theorem d145_18 : decode prog_8_method_2_code 18 = .ok (.castore, 1) := by decide +kernel
theorem d145_19 : decode prog_8_method_2_code 19 = .ok (.aload_n 0, 1) := by decide +kernel
theorem d145_20 : decode prog_8_method_2_code 20 = .ok (.dup, 1) := by decide +kernel
theorem d145_21 : decode prog_8_method_2_code 21 = .ok (.getfield 29, 3) := by decide +kernel
theorem d145_24 : decode prog_8_method_2_code 24 = .ok (.iconst 1, 1) := by decide +kernel
theorem d145_25 : decode prog_8_method_2_code 25 = .ok (.iadd, 1) := by decide +kernel
theorem d145_26 : decode prog_8_method_2_code 26 = .ok (.putfield 29, 3) := by decide +kernel
theorem d145_29 : decode prog_8_method_2_code 29 = .ok (.return_, 1) := by decide +kernel
end
