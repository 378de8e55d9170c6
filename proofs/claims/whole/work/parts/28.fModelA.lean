/-! facts of methods, written by wip/whole/mkfacts.py -/
section
set_option maxRecDepth 100000 in
theorem q217 : xMc 217 = prog_13_method_1_code := rfl
theorem m217 : xMl 217 = 1 ∧ xMret 217 = none ∧ xMh 217 = [] := by decide +kernel
theorem e217 {X : xX} {d : Nat} {w : xH} {Q : xO → xH → Prop} (a : Nat) : Cw X d 217 [.ref a] w Q = Wx X d 217 0 [some (.ref a)] [] w Q := by
  unfold Cw
  rw [m217.1]
  rfl
theorem d217_0 : decode prog_13_method_1_code 0 = .ok (.aload_n 0, 1) := by decide +kernel
theorem d217_1 : decode prog_13_method_1_code 1 = .ok (.invokespecial 1, 3) := by decide +kernel
theorem d217_4 : decode prog_13_method_1_code 4 = .ok (.aload_n 0, 1) := by decide +kernel
theorem d217_5 : decode prog_13_method_1_code 5 = .ok (.sipush 12602, 3) := by decide +kernel
theorem d217_8 : decode prog_13_method_1_code 8 = .ok (.newarray .int, 2) := by decide +kernel
theorem d217_10 : decode prog_13_method_1_code 10 = .ok (.putfield 7, 3) := by decide +kernel
theorem f217_7 : xFd (xMo 217) 7 = some (11, 0) := by decide +kernel
theorem d217_13 : decode prog_13_method_1_code 13 = .ok (.aload_n 0, 1) := by decide +kernel
theorem d217_14 : decode prog_13_method_1_code 14 = .ok (.sipush 12602, 3) := by decide +kernel
theorem d217_17 : decode prog_13_method_1_code 17 = .ok (.newarray .int, 2) := by decide +kernel
theorem d217_19 : decode prog_13_method_1_code 19 = .ok (.putfield 13, 3) := by decide +kernel
theorem f217_13 : xFd (xMo 217) 13 = some (11, 1) := by decide +kernel
theorem d217_22 : decode prog_13_method_1_code 22 = .ok (.aload_n 0, 1) := by decide +kernel
theorem d217_23 : decode prog_13_method_1_code 23 = .ok (.sipush 12602, 3) := by decide +kernel
theorem d217_26 : decode prog_13_method_1_code 26 = .ok (.newarray .int, 2) := by decide +kernel
theorem d217_28 : decode prog_13_method_1_code 28 = .ok (.putfield 16, 3) := by decide +kernel
theorem f217_16 : xFd (xMo 217) 16 = some (11, 3) := by decide +kernel
theorem d217_31 : decode prog_13_method_1_code 31 = .ok (.aload_n 0, 1) := by decide +kernel
theorem d217_32 : decode prog_13_method_1_code 32 = .ok (.sipush 12602, 3) := by decide +kernel
theorem d217_35 : decode prog_13_method_1_code 35 = .ok (.newarray .int, 2) := by decide +kernel
theorem d217_37 : decode prog_13_method_1_code 37 = .ok (.putfield 19, 3) := by decide +kernel
theorem f217_19 : xFd (xMo 217) 19 = some (11, 4) := by decide +kernel
theorem d217_40 : decode prog_13_method_1_code 40 = .ok (.aload_n 0, 1) := by decide +kernel
theorem d217_41 : decode prog_13_method_1_code 41 = .ok (.sipush 12602, 3) := by decide +kernel
theorem d217_44 : decode prog_13_method_1_code 44 = .ok (.newarray .int, 2) := by decide +kernel
theorem d217_46 : decode prog_13_method_1_code 46 = .ok (.putfield 22, 3) := by decide +kernel
theorem f217_22 : xFd (xMo 217) 22 = some (11, 5) := by decide +kernel
theorem d217_49 : decode prog_13_method_1_code 49 = .ok (.aload_n 0, 1) := by decide +kernel
theorem d217_50 : decode prog_13_method_1_code 50 = .ok (.sipush 12602, 3) := by decide +kernel
theorem d217_53 : decode prog_13_method_1_code 53 = .ok (.newarray .int, 2) := by decide +kernel
theorem d217_55 : decode prog_13_method_1_code 55 = .ok (.putfield 25, 3) := by decide +kernel
theorem f217_25 : xFd (xMo 217) 25 = some (11, 6) := by decide +kernel
theorem d217_58 : decode prog_13_method_1_code 58 = .ok (.aload_n 0, 1) := by decide +kernel
theorem d217_59 : decode prog_13_method_1_code 59 = .ok (.bipush 60, 2) := by decide +kernel
theorem d217_61 : decode prog_13_method_1_code 61 = .ok (.newarray .int, 2) := by decide +kernel
theorem d217_63 : decode prog_13_method_1_code 63 = .ok (.putfield 28, 3) := by decide +kernel
theorem f217_28 : xFd (xMo 217) 28 = some (11, 9) := by decide +kernel
theorem d217_66 : decode prog_13_method_1_code 66 = .ok (.aload_n 0, 1) := by decide +kernel
theorem d217_67 : decode prog_13_method_1_code 67 = .ok (.sipush 800, 3) := by decide +kernel
theorem d217_70 : decode prog_13_method_1_code 70 = .ok (.newarray .long, 2) := by decide +kernel
theorem d217_72 : decode prog_13_method_1_code 72 = .ok (.putfield 31, 3) := by decide +kernel
theorem f217_31 : xFd (xMo 217) 31 = some (11, 12) := by decide +kernel
theorem d217_75 : decode prog_13_method_1_code 75 = .ok (.aload_n 0, 1) := by decide +kernel
theorem d217_76 : decode prog_13_method_1_code 76 = .ok (.iconst 4, 1) := by decide +kernel
theorem d217_77 : decode prog_13_method_1_code 77 = .ok (.newarray .long, 2) := by decide +kernel
theorem d217_79 : decode prog_13_method_1_code 79 = .ok (.putfield 35, 3) := by decide +kernel
theorem f217_35 : xFd (xMo 217) 35 = some (11, 13) := by decide +kernel
theorem d217_82 : decode prog_13_method_1_code 82 = .ok (.aload_n 0, 1) := by decide +kernel
theorem d217_83 : decode prog_13_method_1_code 83 = .ok (.iconst 4, 1) := by decide +kernel
theorem d217_84 : decode prog_13_method_1_code 84 = .ok (.newarray .long, 2) := by decide +kernel
theorem d217_86 : decode prog_13_method_1_code 86 = .ok (.putfield 38, 3) := by decide +kernel
theorem f217_38 : xFd (xMo 217) 38 = some (11, 14) := by decide +kernel
theorem d217_89 : decode prog_13_method_1_code 89 = .ok (.aload_n 0, 1) := by decide +kernel
theorem d217_90 : decode prog_13_method_1_code 90 = .ok (.iconst 4, 1) := by decide +kernel
theorem d217_91 : decode prog_13_method_1_code 91 = .ok (.newarray .long, 2) := by decide +kernel
theorem d217_93 : decode prog_13_method_1_code 93 = .ok (.putfield 41, 3) := by decide +kernel
theorem f217_41 : xFd (xMo 217) 41 = some (11, 15) := by decide +kernel
theorem d217_96 : decode prog_13_method_1_code 96 = .ok (.aload_n 0, 1) := by decide +kernel
theorem d217_97 : decode prog_13_method_1_code 97 = .ok (.sipush 200, 3) := by decide +kernel
theorem d217_100 : decode prog_13_method_1_code 100 = .ok (.newarray .int, 2) := by decide +kernel
theorem d217_102 : decode prog_13_method_1_code 102 = .ok (.putfield 44, 3) := by decide +kernel
theorem f217_44 : xFd (xMo 217) 44 = some (11, 16) := by decide +kernel
theorem d217_105 : decode prog_13_method_1_code 105 = .ok (.aload_n 0, 1) := by decide +kernel
theorem d217_106 : decode prog_13_method_1_code 106 = .ok (.sipush 200, 3) := by decide +kernel
theorem d217_109 : decode prog_13_method_1_code 109 = .ok (.newarray .int, 2) := by decide +kernel
theorem d217_111 : decode prog_13_method_1_code 111 = .ok (.putfield 47, 3) := by decide +kernel
theorem f217_47 : xFd (xMo 217) 47 = some (11, 17) := by decide +kernel
theorem d217_114 : decode prog_13_method_1_code 114 = .ok (.aload_n 0, 1) := by decide +kernel
theorem d217_115 : decode prog_13_method_1_code 115 = .ok (.bipush 64, 2) := by decide +kernel
theorem d217_117 : decode prog_13_method_1_code 117 = .ok (.newarray .long, 2) := by decide +kernel
theorem d217_119 : decode prog_13_method_1_code 119 = .ok (.putfield 50, 3) := by decide +kernel
theorem f217_50 : xFd (xMo 217) 50 = some (11, 18) := by decide +kernel
theorem d217_122 : decode prog_13_method_1_code 122 = .ok (.aload_n 0, 1) := by decide +kernel
theorem d217_123 : decode prog_13_method_1_code 123 = .ok (.bipush 64, 2) := by decide +kernel
theorem d217_125 : decode prog_13_method_1_code 125 = .ok (.newarray .int, 2) := by decide +kernel
theorem d217_127 : decode prog_13_method_1_code 127 = .ok (.putfield 53, 3) := by decide +kernel
theorem f217_53 : xFd (xMo 217) 53 = some (11, 19) := by decide +kernel
theorem d217_130 : decode prog_13_method_1_code 130 = .ok (.aload_n 0, 1) := by decide +kernel
theorem d217_131 : decode prog_13_method_1_code 131 = .ok (.bipush 64, 2) := by decide +kernel
theorem d217_133 : decode prog_13_method_1_code 133 = .ok (.newarray .long, 2) := by decide +kernel
theorem d217_135 : decode prog_13_method_1_code 135 = .ok (.putfield 56, 3) := by decide +kernel
theorem f217_56 : xFd (xMo 217) 56 = some (11, 20) := by decide +kernel
theorem d217_138 : decode prog_13_method_1_code 138 = .ok (.aload_n 0, 1) := by decide +kernel
theorem d217_139 : decode prog_13_method_1_code 139 = .ok (.bipush 64, 2) := by decide +kernel
theorem d217_141 : decode prog_13_method_1_code 141 = .ok (.newarray .int, 2) := by decide +kernel
theorem d217_143 : decode prog_13_method_1_code 143 = .ok (.putfield 59, 3) := by decide +kernel
theorem f217_59 : xFd (xMo 217) 59 = some (11, 21) := by decide +kernel
theorem d217_146 : decode prog_13_method_1_code 146 = .ok (.aload_n 0, 1) := by decide +kernel
theorem d217_147 : decode prog_13_method_1_code 147 = .ok (.sipush 200, 3) := by decide +kernel
theorem d217_150 : decode prog_13_method_1_code 150 = .ok (.newarray .int, 2) := by decide +kernel
theorem d217_152 : decode prog_13_method_1_code 152 = .ok (.putfield 62, 3) := by decide +kernel
theorem f217_62 : xFd (xMo 217) 62 = some (11, 27) := by decide +kernel
theorem d217_155 : decode prog_13_method_1_code 155 = .ok (.aload_n 0, 1) := by decide +kernel
theorem d217_156 : decode prog_13_method_1_code 156 = .ok (.sipush 200, 3) := by decide +kernel
theorem d217_159 : decode prog_13_method_1_code 159 = .ok (.newarray .int, 2) := by decide +kernel
theorem d217_161 : decode prog_13_method_1_code 161 = .ok (.putfield 65, 3) := by decide +kernel
theorem f217_65 : xFd (xMo 217) 65 = some (11, 28) := by decide +kernel
theorem d217_164 : decode prog_13_method_1_code 164 = .ok (.aload_n 0, 1) := by decide +kernel
theorem d217_165 : decode prog_13_method_1_code 165 = .ok (.sipush 200, 3) := by decide +kernel
theorem d217_168 : decode prog_13_method_1_code 168 = .ok (.newarray .int, 2) := by decide +kernel
theorem d217_170 : decode prog_13_method_1_code 170 = .ok (.putfield 68, 3) := by decide +kernel
theorem f217_68 : xFd (xMo 217) 68 = some (11, 29) := by decide +kernel
theorem d217_173 : decode prog_13_method_1_code 173 = .ok (.aload_n 0, 1) := by decide +kernel
theorem d217_174 : decode prog_13_method_1_code 174 = .ok (.bipush 60, 2) := by decide +kernel
theorem d217_176 : decode prog_13_method_1_code 176 = .ok (.newarray .int, 2) := by decide +kernel
theorem d217_178 : decode prog_13_method_1_code 178 = .ok (.putfield 71, 3) := by decide +kernel
theorem f217_71 : xFd (xMo 217) 71 = some (11, 31) := by decide +kernel
theorem d217_181 : decode prog_13_method_1_code 181 = .ok (.aload_n 0, 1) := by decide +kernel
theorem d217_182 : decode prog_13_method_1_code 182 = .ok (.bipush 64, 2) := by decide +kernel
theorem d217_184 : decode prog_13_method_1_code 184 = .ok (.newarray .int, 2) := by decide +kernel
theorem d217_186 : decode prog_13_method_1_code 186 = .ok (.putfield 74, 3) := by decide +kernel
theorem f217_74 : xFd (xMo 217) 74 = some (11, 37) := by decide +kernel
theorem d217_189 : decode prog_13_method_1_code 189 = .ok (.aload_n 0, 1) := by decide +kernel
theorem d217_190 : decode prog_13_method_1_code 190 = .ok (.bipush 64, 2) := by decide +kernel
theorem d217_192 : decode prog_13_method_1_code 192 = .ok (.newarray .boolean, 2) := by decide +kernel
theorem d217_194 : decode prog_13_method_1_code 194 = .ok (.putfield 77, 3) := by decide +kernel
theorem f217_77 : xFd (xMo 217) 77 = some (11, 38) := by decide +kernel
theorem d217_197 : decode prog_13_method_1_code 197 = .ok (.aload_n 0, 1) := by decide +kernel
theorem d217_198 : decode prog_13_method_1_code 198 = .ok (.bipush 64, 2) := by decide +kernel
theorem d217_200 : decode prog_13_method_1_code 200 = .ok (.newarray .int, 2) := by decide +kernel
theorem d217_202 : decode prog_13_method_1_code 202 = .ok (.putfield 81, 3) := by decide +kernel
theorem f217_81 : xFd (xMo 217) 81 = some (11, 39) := by decide +kernel
theorem d217_205 : decode prog_13_method_1_code 205 = .ok (.aload_n 0, 1) := by decide +kernel
theorem d217_206 : decode prog_13_method_1_code 206 = .ok (.invokevirtual 84, 3) := by decide +kernel
theorem k217_84_11 : xCa (xMo 217) 84 11 = some (1, 218, 0) := by decide +kernel
theorem n217_84 : xcn (xMo 217) 84 = some 0 := by decide +kernel
theorem d217_209 : decode prog_13_method_1_code 209 = .ok (.return_, 1) := by decide +kernel
set_option maxRecDepth 100000 in
theorem q218 : xMc 218 = prog_13_method_49_code := rfl
theorem m218 : xMl 218 = 2 ∧ xMret 218 = none ∧ xMh 218 = [] := by decide +kernel
theorem e218 {X : xX} {d : Nat} {w : xH} {Q : xO → xH → Prop} (a : Nat) : Cw X d 218 [.ref a] w Q = Wx X d 218 0 [some (.ref a), none] [] w Q := by
  unfold Cw
  rw [m218.1]
  rfl
theorem d218_0 : decode prog_13_method_49_code 0 = .ok (.aload_n 0, 1) := by decide +kernel
theorem d218_1 : decode prog_13_method_49_code 1 = .ok (.iconst 0, 1) := by decide +kernel
theorem d218_2 : decode prog_13_method_49_code 2 = .ok (.putfield 237, 3) := by decide +kernel
theorem f218_237 : xFd (xMo 218) 237 = some (11, 30) := by decide +kernel
theorem d218_5 : decode prog_13_method_49_code 5 = .ok (.iconst 0, 1) := by decide +kernel
theorem d218_6 : decode prog_13_method_49_code 6 = .ok (.istore_n 1, 1) := by decide +kernel
theorem d218_7 : decode prog_13_method_49_code 7 = .ok (.iload_n 1, 1) := by decide +kernel
theorem d218_8 : decode prog_13_method_49_code 8 = .ok (.iconst 4, 1) := by decide +kernel
theorem d218_9 : decode prog_13_method_49_code 9 = .ok (.if_icmp .ge 23, 3) := by decide +kernel
theorem d218_12 : decode prog_13_method_49_code 12 = .ok (.aload_n 0, 1) := by decide +kernel
theorem d218_13 : decode prog_13_method_49_code 13 = .ok (.getfield 35, 3) := by decide +kernel
theorem f218_35 : xFd (xMo 218) 35 = some (11, 13) := by decide +kernel
theorem d218_16 : decode prog_13_method_49_code 16 = .ok (.iload_n 1, 1) := by decide +kernel
theorem d218_17 : decode prog_13_method_49_code 17 = .ok (.lconst 0, 1) := by decide +kernel
theorem d218_18 : decode prog_13_method_49_code 18 = .ok (.lastore, 1) := by decide +kernel
theorem d218_19 : decode prog_13_method_49_code 19 = .ok (.aload_n 0, 1) := by decide +kernel
theorem d218_20 : decode prog_13_method_49_code 20 = .ok (.getfield 38, 3) := by decide +kernel
theorem f218_38 : xFd (xMo 218) 38 = some (11, 14) := by decide +kernel
theorem d218_23 : decode prog_13_method_49_code 23 = .ok (.iload_n 1, 1) := by decide +kernel
theorem d218_24 : decode prog_13_method_49_code 24 = .ok (.lconst 0, 1) := by decide +kernel
theorem d218_25 : decode prog_13_method_49_code 25 = .ok (.lastore, 1) := by decide +kernel
theorem d218_26 : decode prog_13_method_49_code 26 = .ok (.iinc 1 1, 3) := by decide +kernel
theorem d218_29 : decode prog_13_method_49_code 29 = .ok (.goto (-22), 3) := by decide +kernel
theorem d218_32 : decode prog_13_method_49_code 32 = .ok (.iconst 0, 1) := by decide +kernel
theorem d218_33 : decode prog_13_method_49_code 33 = .ok (.istore_n 1, 1) := by decide +kernel
theorem d218_34 : decode prog_13_method_49_code 34 = .ok (.iload_n 1, 1) := by decide +kernel
theorem d218_35 : decode prog_13_method_49_code 35 = .ok (.sipush 200, 3) := by decide +kernel
theorem d218_38 : decode prog_13_method_49_code 38 = .ok (.if_icmp .ge 94, 3) := by decide +kernel
theorem d218_41 : decode prog_13_method_49_code 41 = .ok (.aload_n 0, 1) := by decide +kernel
theorem d218_42 : decode prog_13_method_49_code 42 = .ok (.getfield 65, 3) := by decide +kernel
theorem f218_65 : xFd (xMo 218) 65 = some (11, 28) := by decide +kernel
theorem d218_45 : decode prog_13_method_49_code 45 = .ok (.iload_n 1, 1) := by decide +kernel
theorem d218_46 : decode prog_13_method_49_code 46 = .ok (.iconst (-1), 1) := by decide +kernel
theorem d218_47 : decode prog_13_method_49_code 47 = .ok (.iastore, 1) := by decide +kernel
theorem d218_48 : decode prog_13_method_49_code 48 = .ok (.aload_n 0, 1) := by decide +kernel
theorem d218_49 : decode prog_13_method_49_code 49 = .ok (.getfield 68, 3) := by decide +kernel
theorem f218_68 : xFd (xMo 218) 68 = some (11, 29) := by decide +kernel
theorem d218_52 : decode prog_13_method_49_code 52 = .ok (.iload_n 1, 1) := by decide +kernel
theorem d218_53 : decode prog_13_method_49_code 53 = .ok (.iconst 0, 1) := by decide +kernel
theorem d218_54 : decode prog_13_method_49_code 54 = .ok (.iastore, 1) := by decide +kernel
theorem d218_55 : decode prog_13_method_49_code 55 = .ok (.aload_n 0, 1) := by decide +kernel
theorem d218_56 : decode prog_13_method_49_code 56 = .ok (.getfield 44, 3) := by decide +kernel
theorem f218_44 : xFd (xMo 218) 44 = some (11, 16) := by decide +kernel
theorem d218_59 : decode prog_13_method_49_code 59 = .ok (.iload_n 1, 1) := by decide +kernel
theorem d218_60 : decode prog_13_method_49_code 60 = .ok (.aload_n 0, 1) := by decide +kernel
theorem d218_61 : decode prog_13_method_49_code 61 = .ok (.iload_n 1, 1) := by decide +kernel
theorem d218_62 : decode prog_13_method_49_code 62 = .ok (.iconst 1, 1) := by decide +kernel
theorem d218_63 : decode prog_13_method_49_code 63 = .ok (.invokevirtual 133, 3) := by decide +kernel
theorem k218_133_11 : xCa (xMo 218) 133 11 = some (1, 219, 2) := by decide +kernel
theorem n218_133 : xcn (xMo 218) 133 = some 2 := by decide +kernel
theorem d218_66 : decode prog_13_method_49_code 66 = .ok (.ifCond .eq 16, 3) := by decide +kernel
theorem d218_69 : decode prog_13_method_49_code 69 = .ok (.aload_n 0, 1) := by decide +kernel
theorem d218_70 : decode prog_13_method_49_code 70 = .ok (.getfield 7, 3) := by decide +kernel
theorem f218_7 : xFd (xMo 218) 7 = some (11, 0) := by decide +kernel
theorem d218_73 : decode prog_13_method_49_code 73 = .ok (.sipush 200, 3) := by decide +kernel
theorem d218_76 : decode prog_13_method_49_code 76 = .ok (.iload_n 1, 1) := by decide +kernel
theorem d218_77 : decode prog_13_method_49_code 77 = .ok (.iadd, 1) := by decide +kernel
theorem d218_78 : decode prog_13_method_49_code 78 = .ok (.iaload, 1) := by decide +kernel
theorem d218_79 : decode prog_13_method_49_code 79 = .ok (.goto 4, 3) := by decide +kernel
theorem d218_82 : decode prog_13_method_49_code 82 = .ok (.iconst 0, 1) := by decide +kernel
theorem d218_83 : decode prog_13_method_49_code 83 = .ok (.iastore, 1) := by decide +kernel
theorem d218_84 : decode prog_13_method_49_code 84 = .ok (.aload_n 0, 1) := by decide +kernel
theorem d218_85 : decode prog_13_method_49_code 85 = .ok (.getfield 47, 3) := by decide +kernel
theorem f218_47 : xFd (xMo 218) 47 = some (11, 17) := by decide +kernel
theorem d218_88 : decode prog_13_method_49_code 88 = .ok (.iload_n 1, 1) := by decide +kernel
theorem d218_89 : decode prog_13_method_49_code 89 = .ok (.aload_n 0, 1) := by decide +kernel
theorem d218_90 : decode prog_13_method_49_code 90 = .ok (.iload_n 1, 1) := by decide +kernel
theorem d218_91 : decode prog_13_method_49_code 91 = .ok (.iconst 2, 1) := by decide +kernel
theorem d218_92 : decode prog_13_method_49_code 92 = .ok (.invokevirtual 133, 3) := by decide +kernel
theorem d218_95 : decode prog_13_method_49_code 95 = .ok (.ifCond .eq 7, 3) := by decide +kernel
theorem d218_98 : decode prog_13_method_49_code 98 = .ok (.iconst 5, 1) := by decide +kernel
theorem d218_99 : decode prog_13_method_49_code 99 = .ok (.goto 4, 3) := by decide +kernel
theorem d218_102 : decode prog_13_method_49_code 102 = .ok (.iconst 0, 1) := by decide +kernel
theorem d218_103 : decode prog_13_method_49_code 103 = .ok (.iastore, 1) := by decide +kernel
theorem d218_104 : decode prog_13_method_49_code 104 = .ok (.aload_n 0, 1) := by decide +kernel
theorem d218_105 : decode prog_13_method_49_code 105 = .ok (.iload_n 1, 1) := by decide +kernel
theorem d218_106 : decode prog_13_method_49_code 106 = .ok (.invokevirtual 240, 3) := by decide +kernel
theorem k218_240_11 : xCa (xMo 218) 240 11 = some (1, 220, 1) := by decide +kernel
theorem n218_240 : xcn (xMo 218) 240 = some 1 := by decide +kernel
theorem d218_109 : decode prog_13_method_49_code 109 = .ok (.aload_n 0, 1) := by decide +kernel
theorem d218_110 : decode prog_13_method_49_code 110 = .ok (.iload_n 1, 1) := by decide +kernel
theorem d218_111 : decode prog_13_method_49_code 111 = .ok (.iconst 2, 1) := by decide +kernel
theorem d218_112 : decode prog_13_method_49_code 112 = .ok (.invokevirtual 133, 3) := by decide +kernel
theorem d218_115 : decode prog_13_method_49_code 115 = .ok (.ifCond .eq 11, 3) := by decide +kernel
theorem d218_118 : decode prog_13_method_49_code 118 = .ok (.aload_n 0, 1) := by decide +kernel
theorem d218_119 : decode prog_13_method_49_code 119 = .ok (.getfield 38, 3) := by decide +kernel
theorem d218_122 : decode prog_13_method_49_code 122 = .ok (.iload_n 1, 1) := by decide +kernel
theorem d218_123 : decode prog_13_method_49_code 123 = .ok (.invokestatic 243, 3) := by decide +kernel
theorem k218_243_99 : xCa (xMo 218) 243 99 = some (0, 229, 2) := by decide +kernel
theorem d218_126 : decode prog_13_method_49_code 126 = .ok (.iinc 1 1, 3) := by decide +kernel
theorem d218_129 : decode prog_13_method_49_code 129 = .ok (.goto (-95), 3) := by decide +kernel
theorem d218_132 : decode prog_13_method_49_code 132 = .ok (.return_, 1) := by decide +kernel
set_option maxRecDepth 100000 in
theorem q219 : xMc 219 = prog_13_method_11_code := rfl
theorem m219 : xMl 219 = 3 ∧ xMret 219 = (some FieldType.boolean) ∧ xMh 219 = [] := by decide +kernel
theorem e219 {X : xX} {d : Nat} {w : xH} {Q : xO → xH → Prop} (a : Nat) (x0 : Int32) (x1 : Int32) : Cw X d 219 [.ref a, .int x0, .int x1] w Q = Wx X d 219 0 [some (.ref a), some (.int x0), some (.int x1)] [] w Q := by
  unfold Cw
  rw [m219.1]
  rfl
theorem d219_0 : decode prog_13_method_11_code 0 = .ok (.aload_n 0, 1) := by decide +kernel
theorem d219_1 : decode prog_13_method_11_code 1 = .ok (.getfield 7, 3) := by decide +kernel
theorem f219_7 : xFd (xMo 219) 7 = some (11, 0) := by decide +kernel
theorem d219_4 : decode prog_13_method_11_code 4 = .ok (.iload_n 1, 1) := by decide +kernel
theorem d219_5 : decode prog_13_method_11_code 5 = .ok (.iaload, 1) := by decide +kernel
theorem d219_6 : decode prog_13_method_11_code 6 = .ok (.iload_n 2, 1) := by decide +kernel
theorem d219_7 : decode prog_13_method_11_code 7 = .ok (.if_icmp .ne 7, 3) := by decide +kernel
theorem d219_10 : decode prog_13_method_11_code 10 = .ok (.iconst 1, 1) := by decide +kernel
theorem d219_11 : decode prog_13_method_11_code 11 = .ok (.goto 4, 3) := by decide +kernel
theorem d219_14 : decode prog_13_method_11_code 14 = .ok (.iconst 0, 1) := by decide +kernel
theorem d219_15 : decode prog_13_method_11_code 15 = .ok (.ireturn, 1) := by decide +kernel
set_option maxRecDepth 100000 in
theorem q220 : xMc 220 = prog_13_method_25_code := rfl
theorem m220 : xMl 220 = 3 ∧ xMret 220 = none ∧ xMh 220 = [] := by decide +kernel
theorem e220 {X : xX} {d : Nat} {w : xH} {Q : xO → xH → Prop} (a : Nat) (x0 : Int32) : Cw X d 220 [.ref a, .int x0] w Q = Wx X d 220 0 [some (.ref a), some (.int x0), none] [] w Q := by
  unfold Cw
  rw [m220.1]
  rfl
theorem d220_0 : decode prog_13_method_25_code 0 = .ok (.iconst 0, 1) := by decide +kernel
theorem d220_1 : decode prog_13_method_25_code 1 = .ok (.istore_n 2, 1) := by decide +kernel
theorem d220_2 : decode prog_13_method_25_code 2 = .ok (.iload_n 2, 1) := by decide +kernel
theorem d220_3 : decode prog_13_method_25_code 3 = .ok (.iconst 4, 1) := by decide +kernel
theorem d220_4 : decode prog_13_method_25_code 4 = .ok (.if_icmp .ge 20, 3) := by decide +kernel
theorem d220_7 : decode prog_13_method_25_code 7 = .ok (.aload_n 0, 1) := by decide +kernel
theorem d220_8 : decode prog_13_method_25_code 8 = .ok (.getfield 31, 3) := by decide +kernel
theorem f220_31 : xFd (xMo 220) 31 = some (11, 12) := by decide +kernel
theorem d220_11 : decode prog_13_method_25_code 11 = .ok (.iconst 4, 1) := by decide +kernel
theorem d220_12 : decode prog_13_method_25_code 12 = .ok (.iload_n 1, 1) := by decide +kernel
theorem d220_13 : decode prog_13_method_25_code 13 = .ok (.imul, 1) := by decide +kernel
theorem d220_14 : decode prog_13_method_25_code 14 = .ok (.iload_n 2, 1) := by decide +kernel
theorem d220_15 : decode prog_13_method_25_code 15 = .ok (.iadd, 1) := by decide +kernel
theorem d220_16 : decode prog_13_method_25_code 16 = .ok (.lconst 0, 1) := by decide +kernel
theorem d220_17 : decode prog_13_method_25_code 17 = .ok (.lastore, 1) := by decide +kernel
theorem d220_18 : decode prog_13_method_25_code 18 = .ok (.iinc 2 1, 3) := by decide +kernel
theorem d220_21 : decode prog_13_method_25_code 21 = .ok (.goto (-19), 3) := by decide +kernel
theorem d220_24 : decode prog_13_method_25_code 24 = .ok (.iconst 0, 1) := by decide +kernel
theorem d220_25 : decode prog_13_method_25_code 25 = .ok (.istore_n 2, 1) := by decide +kernel
theorem d220_26 : decode prog_13_method_25_code 26 = .ok (.aload_n 0, 1) := by decide +kernel
theorem d220_27 : decode prog_13_method_25_code 27 = .ok (.iload_n 1, 1) := by decide +kernel
theorem d220_28 : decode prog_13_method_25_code 28 = .ok (.iconst 2, 1) := by decide +kernel
theorem d220_29 : decode prog_13_method_25_code 29 = .ok (.invokevirtual 133, 3) := by decide +kernel
theorem k220_133_11 : xCa (xMo 220) 133 11 = some (1, 219, 2) := by decide +kernel
theorem n220_133 : xcn (xMo 220) 133 = some 2 := by decide +kernel
theorem d220_32 : decode prog_13_method_25_code 32 = .ok (.ifCond .eq 89, 3) := by decide +kernel
theorem d220_35 : decode prog_13_method_25_code 35 = .ok (.iload_n 2, 1) := by decide +kernel
theorem d220_36 : decode prog_13_method_25_code 36 = .ok (.aload_n 0, 1) := by decide +kernel
theorem d220_37 : decode prog_13_method_25_code 37 = .ok (.getfield 7, 3) := by decide +kernel
theorem f220_7 : xFd (xMo 220) 7 = some (11, 0) := by decide +kernel
theorem d220_40 : decode prog_13_method_25_code 40 = .ok (.sipush 400, 3) := by decide +kernel
theorem d220_43 : decode prog_13_method_25_code 43 = .ok (.iload_n 1, 1) := by decide +kernel
theorem d220_44 : decode prog_13_method_25_code 44 = .ok (.iadd, 1) := by decide +kernel
theorem d220_45 : decode prog_13_method_25_code 45 = .ok (.iaload, 1) := by decide +kernel
theorem d220_46 : decode prog_13_method_25_code 46 = .ok (.if_icmp .ge 75, 3) := by decide +kernel
theorem d220_49 : decode prog_13_method_25_code 49 = .ok (.aload_n 0, 1) := by decide +kernel
theorem d220_50 : decode prog_13_method_25_code 50 = .ok (.iload_n 1, 1) := by decide +kernel
theorem d220_51 : decode prog_13_method_25_code 51 = .ok (.iload_n 2, 1) := by decide +kernel
theorem d220_52 : decode prog_13_method_25_code 52 = .ok (.invokevirtual 137, 3) := by decide +kernel
theorem k220_137_11 : xCa (xMo 220) 137 11 = some (1, 221, 2) := by decide +kernel
theorem n220_137 : xcn (xMo 220) 137 = some 2 := by decide +kernel
theorem d220_55 : decode prog_13_method_25_code 55 = .ok (.ifCond .eq 34, 3) := by decide +kernel
theorem d220_58 : decode prog_13_method_25_code 58 = .ok (.aload_n 0, 1) := by decide +kernel
theorem d220_59 : decode prog_13_method_25_code 59 = .ok (.iload_n 1, 1) := by decide +kernel
theorem d220_60 : decode prog_13_method_25_code 60 = .ok (.aload_n 0, 1) := by decide +kernel
theorem d220_61 : decode prog_13_method_25_code 61 = .ok (.iload_n 1, 1) := by decide +kernel
theorem d220_62 : decode prog_13_method_25_code 62 = .ok (.iload_n 2, 1) := by decide +kernel
theorem d220_63 : decode prog_13_method_25_code 63 = .ok (.invokevirtual 111, 3) := by decide +kernel
theorem k220_111_11 : xCa (xMo 220) 111 11 = some (1, 222, 2) := by decide +kernel
theorem n220_111 : xcn (xMo 220) 111 = some 2 := by decide +kernel
theorem d220_66 : decode prog_13_method_25_code 66 = .ok (.invokestatic 140, 3) := by decide +kernel
theorem k220_140_99 : xCa (xMo 220) 140 99 = some (0, 224, 1) := by decide +kernel
theorem d220_69 : decode prog_13_method_25_code 69 = .ok (.aload_n 0, 1) := by decide +kernel
theorem d220_70 : decode prog_13_method_25_code 70 = .ok (.iload_n 1, 1) := by decide +kernel
theorem d220_71 : decode prog_13_method_25_code 71 = .ok (.iload_n 2, 1) := by decide +kernel
theorem d220_72 : decode prog_13_method_25_code 72 = .ok (.iconst 2, 1) := by decide +kernel
theorem d220_73 : decode prog_13_method_25_code 73 = .ok (.iadd, 1) := by decide +kernel
theorem d220_74 : decode prog_13_method_25_code 74 = .ok (.invokevirtual 111, 3) := by decide +kernel
theorem d220_77 : decode prog_13_method_25_code 77 = .ok (.invokestatic 140, 3) := by decide +kernel
theorem d220_80 : decode prog_13_method_25_code 80 = .ok (.invokevirtual 144, 3) := by decide +kernel
theorem k220_144_11 : xCa (xMo 220) 144 11 = some (1, 225, 3) := by decide +kernel
theorem n220_144 : xcn (xMo 220) 144 = some 3 := by decide +kernel
theorem d220_83 : decode prog_13_method_25_code 83 = .ok (.iinc 2 2, 3) := by decide +kernel
theorem d220_86 : decode prog_13_method_25_code 86 = .ok (.goto 29, 3) := by decide +kernel
theorem d220_89 : decode prog_13_method_25_code 89 = .ok (.aload_n 0, 1) := by decide +kernel
theorem d220_90 : decode prog_13_method_25_code 90 = .ok (.iload_n 1, 1) := by decide +kernel
theorem d220_91 : decode prog_13_method_25_code 91 = .ok (.iload_n 2, 1) := by decide +kernel
theorem d220_92 : decode prog_13_method_25_code 92 = .ok (.invokevirtual 111, 3) := by decide +kernel
theorem d220_95 : decode prog_13_method_25_code 95 = .ok (.invokestatic 115, 3) := by decide +kernel
theorem k220_115_99 : xCa (xMo 220) 115 99 = some (0, 223, 1) := by decide +kernel
theorem d220_98 : decode prog_13_method_25_code 98 = .ok (.ifCond .eq 17, 3) := by decide +kernel
theorem d220_101 : decode prog_13_method_25_code 101 = .ok (.aload_n 0, 1) := by decide +kernel
theorem d220_102 : decode prog_13_method_25_code 102 = .ok (.iload_n 1, 1) := by decide +kernel
theorem d220_103 : decode prog_13_method_25_code 103 = .ok (.aload_n 0, 1) := by decide +kernel
theorem d220_104 : decode prog_13_method_25_code 104 = .ok (.iload_n 1, 1) := by decide +kernel
theorem d220_105 : decode prog_13_method_25_code 105 = .ok (.iload_n 2, 1) := by decide +kernel
theorem d220_106 : decode prog_13_method_25_code 106 = .ok (.invokevirtual 111, 3) := by decide +kernel
theorem d220_109 : decode prog_13_method_25_code 109 = .ok (.invokestatic 140, 3) := by decide +kernel
theorem d220_112 : decode prog_13_method_25_code 112 = .ok (.invokevirtual 129, 3) := by decide +kernel
theorem k220_129_11 : xCa (xMo 220) 129 11 = some (1, 228, 2) := by decide +kernel
theorem n220_129 : xcn (xMo 220) 129 = some 2 := by decide +kernel
theorem d220_115 : decode prog_13_method_25_code 115 = .ok (.iinc 2 1, 3) := by decide +kernel
theorem d220_118 : decode prog_13_method_25_code 118 = .ok (.goto (-92), 3) := by decide +kernel
theorem d220_121 : decode prog_13_method_25_code 121 = .ok (.return_, 1) := by decide +kernel
set_option maxRecDepth 100000 in
theorem q221 : xMc 221 = prog_13_method_16_code := rfl
theorem m221 : xMl 221 = 3 ∧ xMret 221 = (some FieldType.boolean) ∧ xMh 221 = [] := by decide +kernel
theorem e221 {X : xX} {d : Nat} {w : xH} {Q : xO → xH → Prop} (a : Nat) (x0 : Int32) (x1 : Int32) : Cw X d 221 [.ref a, .int x0, .int x1] w Q = Wx X d 221 0 [some (.ref a), some (.int x0), some (.int x1)] [] w Q := by
  unfold Cw
  rw [m221.1]
  rfl
theorem d221_0 : decode prog_13_method_16_code 0 = .ok (.aload_n 0, 1) := by decide +kernel
theorem d221_1 : decode prog_13_method_16_code 1 = .ok (.iload_n 1, 1) := by decide +kernel
theorem d221_2 : decode prog_13_method_16_code 2 = .ok (.iload_n 2, 1) := by decide +kernel
theorem d221_3 : decode prog_13_method_16_code 3 = .ok (.invokevirtual 111, 3) := by decide +kernel
theorem k221_111_11 : xCa (xMo 221) 111 11 = some (1, 222, 2) := by decide +kernel
theorem n221_111 : xcn (xMo 221) 111 = some 2 := by decide +kernel
theorem d221_6 : decode prog_13_method_16_code 6 = .ok (.invokestatic 115, 3) := by decide +kernel
theorem k221_115_99 : xCa (xMo 221) 115 99 = some (0, 223, 1) := by decide +kernel
theorem d221_9 : decode prog_13_method_16_code 9 = .ok (.ifCond .eq 20, 3) := by decide +kernel
theorem d221_12 : decode prog_13_method_16_code 12 = .ok (.aload_n 0, 1) := by decide +kernel
theorem d221_13 : decode prog_13_method_16_code 13 = .ok (.iload_n 1, 1) := by decide +kernel
theorem d221_14 : decode prog_13_method_16_code 14 = .ok (.iload_n 2, 1) := by decide +kernel
theorem d221_15 : decode prog_13_method_16_code 15 = .ok (.iconst 1, 1) := by decide +kernel
theorem d221_16 : decode prog_13_method_16_code 16 = .ok (.iadd, 1) := by decide +kernel
theorem d221_17 : decode prog_13_method_16_code 17 = .ok (.invokevirtual 111, 3) := by decide +kernel
theorem d221_20 : decode prog_13_method_16_code 20 = .ok (.bipush 58, 2) := by decide +kernel
theorem d221_22 : decode prog_13_method_16_code 22 = .ok (.if_icmp .ne 7, 3) := by decide +kernel
theorem d221_25 : decode prog_13_method_16_code 25 = .ok (.iconst 1, 1) := by decide +kernel
theorem d221_26 : decode prog_13_method_16_code 26 = .ok (.goto 4, 3) := by decide +kernel
theorem d221_29 : decode prog_13_method_16_code 29 = .ok (.iconst 0, 1) := by decide +kernel
theorem d221_30 : decode prog_13_method_16_code 30 = .ok (.ireturn, 1) := by decide +kernel
set_option maxRecDepth 100000 in
theorem q222 : xMc 222 = prog_13_method_12_code := rfl
theorem m222 : xMl 222 = 3 ∧ xMret 222 = (some FieldType.int) ∧ xMh 222 = [] := by decide +kernel
theorem e222 {X : xX} {d : Nat} {w : xH} {Q : xO → xH → Prop} (a : Nat) (x0 : Int32) (x1 : Int32) : Cw X d 222 [.ref a, .int x0, .int x1] w Q = Wx X d 222 0 [some (.ref a), some (.int x0), some (.int x1)] [] w Q := by
  unfold Cw
  rw [m222.1]
  rfl
theorem d222_0 : decode prog_13_method_12_code 0 = .ok (.iload_n 2, 1) := by decide +kernel
theorem d222_1 : decode prog_13_method_12_code 1 = .ok (.aload_n 0, 1) := by decide +kernel
theorem d222_2 : decode prog_13_method_12_code 2 = .ok (.getfield 7, 3) := by decide +kernel
theorem f222_7 : xFd (xMo 222) 7 = some (11, 0) := by decide +kernel
theorem d222_5 : decode prog_13_method_12_code 5 = .ok (.sipush 400, 3) := by decide +kernel
theorem d222_8 : decode prog_13_method_12_code 8 = .ok (.iload_n 1, 1) := by decide +kernel
theorem d222_9 : decode prog_13_method_12_code 9 = .ok (.iadd, 1) := by decide +kernel
theorem d222_10 : decode prog_13_method_12_code 10 = .ok (.iaload, 1) := by decide +kernel
theorem d222_11 : decode prog_13_method_12_code 11 = .ok (.if_icmp .ge 21, 3) := by decide +kernel
theorem d222_14 : decode prog_13_method_12_code 14 = .ok (.aload_n 0, 1) := by decide +kernel
theorem d222_15 : decode prog_13_method_12_code 15 = .ok (.getfield 7, 3) := by decide +kernel
theorem d222_18 : decode prog_13_method_12_code 18 = .ok (.sipush 602, 3) := by decide +kernel
theorem d222_21 : decode prog_13_method_12_code 21 = .ok (.bipush 60, 2) := by decide +kernel
theorem d222_23 : decode prog_13_method_12_code 23 = .ok (.iload_n 1, 1) := by decide +kernel
theorem d222_24 : decode prog_13_method_12_code 24 = .ok (.imul, 1) := by decide +kernel
theorem d222_25 : decode prog_13_method_12_code 25 = .ok (.iadd, 1) := by decide +kernel
theorem d222_26 : decode prog_13_method_12_code 26 = .ok (.iload_n 2, 1) := by decide +kernel
theorem d222_27 : decode prog_13_method_12_code 27 = .ok (.iadd, 1) := by decide +kernel
theorem d222_28 : decode prog_13_method_12_code 28 = .ok (.iaload, 1) := by decide +kernel
theorem d222_29 : decode prog_13_method_12_code 29 = .ok (.goto 4, 3) := by decide +kernel
theorem d222_32 : decode prog_13_method_12_code 32 = .ok (.iconst 0, 1) := by decide +kernel
theorem d222_33 : decode prog_13_method_12_code 33 = .ok (.ireturn, 1) := by decide +kernel
set_option maxRecDepth 100000 in
theorem q223 : xMc 223 = prog_13_method_14_code := rfl
theorem m223 : xMl 223 = 1 ∧ xMret 223 = (some FieldType.boolean) ∧ xMh 223 = [] := by decide +kernel
theorem e223 {X : xX} {d : Nat} {w : xH} {Q : xO → xH → Prop} (x0 : Int32) : Cw X d 223 [.int x0] w Q = Wx X d 223 0 [some (.int x0)] [] w Q := by
  unfold Cw
  rw [m223.1]
  rfl
theorem d223_0 : decode prog_13_method_14_code 0 = .ok (.iload_n 0, 1) := by decide +kernel
theorem d223_1 : decode prog_13_method_14_code 1 = .ok (.ldc 109, 2) := by decide +kernel
theorem d223_3 : decode prog_13_method_14_code 3 = .ok (.if_icmp .lt 13, 3) := by decide +kernel
theorem d223_6 : decode prog_13_method_14_code 6 = .ok (.iload_n 0, 1) := by decide +kernel
theorem d223_7 : decode prog_13_method_14_code 7 = .ok (.ldc 110, 2) := by decide +kernel
theorem d223_9 : decode prog_13_method_14_code 9 = .ok (.if_icmp .ge 7, 3) := by decide +kernel
theorem d223_12 : decode prog_13_method_14_code 12 = .ok (.iconst 1, 1) := by decide +kernel
theorem d223_13 : decode prog_13_method_14_code 13 = .ok (.goto 4, 3) := by decide +kernel
theorem d223_16 : decode prog_13_method_14_code 16 = .ok (.iconst 0, 1) := by decide +kernel
theorem d223_17 : decode prog_13_method_14_code 17 = .ok (.ireturn, 1) := by decide +kernel
set_option maxRecDepth 100000 in
theorem q224 : xMc 224 = prog_13_method_15_code := rfl
theorem m224 : xMl 224 = 1 ∧ xMret 224 = (some FieldType.int) ∧ xMh 224 = [] := by decide +kernel
theorem e224 {X : xX} {d : Nat} {w : xH} {Q : xO → xH → Prop} (x0 : Int32) : Cw X d 224 [.int x0] w Q = Wx X d 224 0 [some (.int x0)] [] w Q := by
  unfold Cw
  rw [m224.1]
  rfl
theorem d224_0 : decode prog_13_method_15_code 0 = .ok (.iload_n 0, 1) := by decide +kernel
theorem d224_1 : decode prog_13_method_15_code 1 = .ok (.ldc 109, 2) := by decide +kernel
theorem d224_3 : decode prog_13_method_15_code 3 = .ok (.isub, 1) := by decide +kernel
theorem d224_4 : decode prog_13_method_15_code 4 = .ok (.sipush 1000, 3) := by decide +kernel
theorem d224_7 : decode prog_13_method_15_code 7 = .ok (.irem, 1) := by decide +kernel
theorem d224_8 : decode prog_13_method_15_code 8 = .ok (.ireturn, 1) := by decide +kernel
set_option maxRecDepth 100000 in
theorem q225 : xMc 225 = prog_13_method_24_code := rfl
theorem m225 : xMl 225 = 6 ∧ xMret 225 = none ∧ xMh 225 = [] := by decide +kernel
theorem e225 {X : xX} {d : Nat} {w : xH} {Q : xO → xH → Prop} (a : Nat) (x0 : Int32) (x1 : Int32) (x2 : Int32) : Cw X d 225 [.ref a, .int x0, .int x1, .int x2] w Q = Wx X d 225 0 [some (.ref a), some (.int x0), some (.int x1), some (.int x2), none, none] [] w Q := by
  unfold Cw
  rw [m225.1]
  rfl
theorem d225_0 : decode prog_13_method_24_code 0 = .ok (.iload_n 2, 1) := by decide +kernel
theorem d225_1 : decode prog_13_method_24_code 1 = .ok (.bipush 10, 2) := by decide +kernel
theorem d225_3 : decode prog_13_method_24_code 3 = .ok (.idiv, 1) := by decide +kernel
theorem d225_4 : decode prog_13_method_24_code 4 = .ok (.iload_n 3, 1) := by decide +kernel
theorem d225_5 : decode prog_13_method_24_code 5 = .ok (.bipush 10, 2) := by decide +kernel
theorem d225_7 : decode prog_13_method_24_code 7 = .ok (.idiv, 1) := by decide +kernel
theorem d225_8 : decode prog_13_method_24_code 8 = .ok (.invokestatic 123, 3) := by decide +kernel
theorem k225_123_99 : xCa (xMo 225) 123 99 = some (0, 226, 2) := by decide +kernel
theorem d225_11 : decode prog_13_method_24_code 11 = .ok (.istore 4, 2) := by decide +kernel
theorem d225_13 : decode prog_13_method_24_code 13 = .ok (.iload 4, 2) := by decide +kernel
theorem d225_15 : decode prog_13_method_24_code 15 = .ok (.iload_n 2, 1) := by decide +kernel
theorem d225_16 : decode prog_13_method_24_code 16 = .ok (.bipush 10, 2) := by decide +kernel
theorem d225_18 : decode prog_13_method_24_code 18 = .ok (.idiv, 1) := by decide +kernel
theorem d225_19 : decode prog_13_method_24_code 19 = .ok (.iload_n 3, 1) := by decide +kernel
theorem d225_20 : decode prog_13_method_24_code 20 = .ok (.bipush 10, 2) := by decide +kernel
theorem d225_22 : decode prog_13_method_24_code 22 = .ok (.idiv, 1) := by decide +kernel
theorem d225_23 : decode prog_13_method_24_code 23 = .ok (.invokestatic 126, 3) := by decide +kernel
theorem k225_126_99 : xCa (xMo 225) 126 99 = some (0, 227, 2) := by decide +kernel
theorem d225_26 : decode prog_13_method_24_code 26 = .ok (.if_icmp .gt 57, 3) := by decide +kernel
theorem d225_29 : decode prog_13_method_24_code 29 = .ok (.iload_n 2, 1) := by decide +kernel
theorem d225_30 : decode prog_13_method_24_code 30 = .ok (.bipush 10, 2) := by decide +kernel
theorem d225_32 : decode prog_13_method_24_code 32 = .ok (.irem, 1) := by decide +kernel
theorem d225_33 : decode prog_13_method_24_code 33 = .ok (.iload_n 3, 1) := by decide +kernel
theorem d225_34 : decode prog_13_method_24_code 34 = .ok (.bipush 10, 2) := by decide +kernel
theorem d225_36 : decode prog_13_method_24_code 36 = .ok (.irem, 1) := by decide +kernel
theorem d225_37 : decode prog_13_method_24_code 37 = .ok (.invokestatic 123, 3) := by decide +kernel
theorem d225_40 : decode prog_13_method_24_code 40 = .ok (.istore 5, 2) := by decide +kernel
theorem d225_42 : decode prog_13_method_24_code 42 = .ok (.iload 5, 2) := by decide +kernel
theorem d225_44 : decode prog_13_method_24_code 44 = .ok (.iload_n 2, 1) := by decide +kernel
theorem d225_45 : decode prog_13_method_24_code 45 = .ok (.bipush 10, 2) := by decide +kernel
theorem d225_47 : decode prog_13_method_24_code 47 = .ok (.irem, 1) := by decide +kernel
theorem d225_48 : decode prog_13_method_24_code 48 = .ok (.iload_n 3, 1) := by decide +kernel
theorem d225_49 : decode prog_13_method_24_code 49 = .ok (.bipush 10, 2) := by decide +kernel
theorem d225_51 : decode prog_13_method_24_code 51 = .ok (.irem, 1) := by decide +kernel
theorem d225_52 : decode prog_13_method_24_code 52 = .ok (.invokestatic 126, 3) := by decide +kernel
theorem d225_55 : decode prog_13_method_24_code 55 = .ok (.if_icmp .gt 22, 3) := by decide +kernel
theorem d225_58 : decode prog_13_method_24_code 58 = .ok (.aload_n 0, 1) := by decide +kernel
theorem d225_59 : decode prog_13_method_24_code 59 = .ok (.iload_n 1, 1) := by decide +kernel
theorem d225_60 : decode prog_13_method_24_code 60 = .ok (.bipush 10, 2) := by decide +kernel
theorem d225_62 : decode prog_13_method_24_code 62 = .ok (.iload 4, 2) := by decide +kernel
theorem d225_64 : decode prog_13_method_24_code 64 = .ok (.imul, 1) := by decide +kernel
theorem d225_65 : decode prog_13_method_24_code 65 = .ok (.iload 5, 2) := by decide +kernel
theorem d225_67 : decode prog_13_method_24_code 67 = .ok (.iadd, 1) := by decide +kernel
theorem d225_68 : decode prog_13_method_24_code 68 = .ok (.invokevirtual 129, 3) := by decide +kernel
theorem k225_129_11 : xCa (xMo 225) 129 11 = some (1, 228, 2) := by decide +kernel
theorem n225_129 : xcn (xMo 225) 129 = some 2 := by decide +kernel
theorem d225_71 : decode prog_13_method_24_code 71 = .ok (.iinc 5 1, 3) := by decide +kernel
theorem d225_74 : decode prog_13_method_24_code 74 = .ok (.goto (-32), 3) := by decide +kernel
theorem d225_77 : decode prog_13_method_24_code 77 = .ok (.iinc 4 1, 3) := by decide +kernel
theorem d225_80 : decode prog_13_method_24_code 80 = .ok (.goto (-67), 3) := by decide +kernel
theorem d225_83 : decode prog_13_method_24_code 83 = .ok (.return_, 1) := by decide +kernel
set_option maxRecDepth 100000 in
theorem q226 : xMc 226 = prog_13_method_18_code := rfl
theorem m226 : xMl 226 = 2 ∧ xMret 226 = (some FieldType.int) ∧ xMh 226 = [] := by decide +kernel
theorem e226 {X : xX} {d : Nat} {w : xH} {Q : xO → xH → Prop} (x0 : Int32) (x1 : Int32) : Cw X d 226 [.int x0, .int x1] w Q = Wx X d 226 0 [some (.int x0), some (.int x1)] [] w Q := by
  unfold Cw
  rw [m226.1]
  rfl
theorem d226_0 : decode prog_13_method_18_code 0 = .ok (.iload_n 0, 1) := by decide +kernel
theorem d226_1 : decode prog_13_method_18_code 1 = .ok (.iload_n 1, 1) := by decide +kernel
theorem d226_2 : decode prog_13_method_18_code 2 = .ok (.if_icmp .ge 7, 3) := by decide +kernel
theorem d226_5 : decode prog_13_method_18_code 5 = .ok (.iload_n 0, 1) := by decide +kernel
theorem d226_6 : decode prog_13_method_18_code 6 = .ok (.goto 4, 3) := by decide +kernel
theorem d226_9 : decode prog_13_method_18_code 9 = .ok (.iload_n 1, 1) := by decide +kernel
theorem d226_10 : decode prog_13_method_18_code 10 = .ok (.ireturn, 1) := by decide +kernel
set_option maxRecDepth 100000 in
theorem q227 : xMc 227 = prog_13_method_19_code := rfl
theorem m227 : xMl 227 = 2 ∧ xMret 227 = (some FieldType.int) ∧ xMh 227 = [] := by decide +kernel
theorem e227 {X : xX} {d : Nat} {w : xH} {Q : xO → xH → Prop} (x0 : Int32) (x1 : Int32) : Cw X d 227 [.int x0, .int x1] w Q = Wx X d 227 0 [some (.int x0), some (.int x1)] [] w Q := by
  unfold Cw
  rw [m227.1]
  rfl
theorem d227_0 : decode prog_13_method_19_code 0 = .ok (.iload_n 0, 1) := by decide +kernel
theorem d227_1 : decode prog_13_method_19_code 1 = .ok (.iload_n 1, 1) := by decide +kernel
theorem d227_2 : decode prog_13_method_19_code 2 = .ok (.if_icmp .ge 7, 3) := by decide +kernel
theorem d227_5 : decode prog_13_method_19_code 5 = .ok (.iload_n 1, 1) := by decide +kernel
theorem d227_6 : decode prog_13_method_19_code 6 = .ok (.goto 4, 3) := by decide +kernel
theorem d227_9 : decode prog_13_method_19_code 9 = .ok (.iload_n 0, 1) := by decide +kernel
theorem d227_10 : decode prog_13_method_19_code 10 = .ok (.ireturn, 1) := by decide +kernel
set_option maxRecDepth 100000 in
theorem q228 : xMc 228 = prog_13_method_23_code := rfl
theorem m228 : xMl 228 = 3 ∧ xMret 228 = none ∧ xMh 228 = [] := by decide +kernel
theorem e228 {X : xX} {d : Nat} {w : xH} {Q : xO → xH → Prop} (a : Nat) (x0 : Int32) (x1 : Int32) : Cw X d 228 [.ref a, .int x0, .int x1] w Q = Wx X d 228 0 [some (.ref a), some (.int x0), some (.int x1)] [] w Q := by
  unfold Cw
  rw [m228.1]
  rfl
theorem d228_0 : decode prog_13_method_23_code 0 = .ok (.aload_n 0, 1) := by decide +kernel
theorem d228_1 : decode prog_13_method_23_code 1 = .ok (.getfield 31, 3) := by decide +kernel
theorem f228_31 : xFd (xMo 228) 31 = some (11, 12) := by decide +kernel
theorem d228_4 : decode prog_13_method_23_code 4 = .ok (.iconst 4, 1) := by decide +kernel
theorem d228_5 : decode prog_13_method_23_code 5 = .ok (.iload_n 1, 1) := by decide +kernel
theorem d228_6 : decode prog_13_method_23_code 6 = .ok (.imul, 1) := by decide +kernel
theorem d228_7 : decode prog_13_method_23_code 7 = .ok (.iload_n 2, 1) := by decide +kernel
theorem d228_8 : decode prog_13_method_23_code 8 = .ok (.bipush 64, 2) := by decide +kernel
theorem d228_10 : decode prog_13_method_23_code 10 = .ok (.idiv, 1) := by decide +kernel
theorem d228_11 : decode prog_13_method_23_code 11 = .ok (.iadd, 1) := by decide +kernel
theorem d228_12 : decode prog_13_method_23_code 12 = .ok (.dup2, 1) := by decide +kernel
theorem d228_13 : decode prog_13_method_23_code 13 = .ok (.laload, 1) := by decide +kernel
theorem d228_14 : decode prog_13_method_23_code 14 = .ok (.lconst 1, 1) := by decide +kernel
theorem d228_15 : decode prog_13_method_23_code 15 = .ok (.iload_n 2, 1) := by decide +kernel
theorem d228_16 : decode prog_13_method_23_code 16 = .ok (.bipush 64, 2) := by decide +kernel
theorem d228_18 : decode prog_13_method_23_code 18 = .ok (.irem, 1) := by decide +kernel
theorem d228_19 : decode prog_13_method_23_code 19 = .ok (.lshl, 1) := by decide +kernel
theorem d228_20 : decode prog_13_method_23_code 20 = .ok (.lor, 1) := by decide +kernel
theorem d228_21 : decode prog_13_method_23_code 21 = .ok (.lastore, 1) := by decide +kernel
theorem d228_22 : decode prog_13_method_23_code 22 = .ok (.return_, 1) := by decide +kernel
set_option maxRecDepth 100000 in
theorem q229 : xMc 229 = prog_13_method_21_code := rfl
theorem m229 : xMl 229 = 2 ∧ xMret 229 = none ∧ xMh 229 = [] := by decide +kernel
theorem e229 {X : xX} {d : Nat} {w : xH} {Q : xO → xH → Prop} (x0 : Nat) (x1 : Int32) : Cw X d 229 [.ref x0, .int x1] w Q = Wx X d 229 0 [some (.ref x0), some (.int x1)] [] w Q := by
  unfold Cw
  rw [m229.1]
  rfl
theorem d229_0 : decode prog_13_method_21_code 0 = .ok (.aload_n 0, 1) := by decide +kernel
theorem d229_1 : decode prog_13_method_21_code 1 = .ok (.iload_n 1, 1) := by decide +kernel
theorem d229_2 : decode prog_13_method_21_code 2 = .ok (.bipush 64, 2) := by decide +kernel
theorem d229_4 : decode prog_13_method_21_code 4 = .ok (.idiv, 1) := by decide +kernel
theorem d229_5 : decode prog_13_method_21_code 5 = .ok (.dup2, 1) := by decide +kernel
theorem d229_6 : decode prog_13_method_21_code 6 = .ok (.laload, 1) := by decide +kernel
theorem d229_7 : decode prog_13_method_21_code 7 = .ok (.lconst 1, 1) := by decide +kernel
theorem d229_8 : decode prog_13_method_21_code 8 = .ok (.iload_n 1, 1) := by decide +kernel
theorem d229_9 : decode prog_13_method_21_code 9 = .ok (.bipush 64, 2) := by decide +kernel
theorem d229_11 : decode prog_13_method_21_code 11 = .ok (.irem, 1) := by decide +kernel
theorem d229_12 : decode prog_13_method_21_code 12 = .ok (.lshl, 1) := by decide +kernel
theorem d229_13 : decode prog_13_method_21_code 13 = .ok (.lor, 1) := by decide +kernel
theorem d229_14 : decode prog_13_method_21_code 14 = .ok (.lastore, 1) := by decide +kernel
theorem d229_15 : decode prog_13_method_21_code 15 = .ok (.return_, 1) := by decide +kernel
set_option maxRecDepth 100000 in
theorem q230 : xMc 230 = prog_13_method_2_code := rfl
theorem m230 : xMl 230 = 1 ∧ xMret 230 = (some FieldType.int) ∧ xMh 230 = [] := by decide +kernel
theorem e230 {X : xX} {d : Nat} {w : xH} {Q : xO → xH → Prop} (a : Nat) : Cw X d 230 [.ref a] w Q = Wx X d 230 0 [some (.ref a)] [] w Q := by
  unfold Cw
  rw [m230.1]
  rfl
theorem d230_0 : decode prog_13_method_2_code 0 = .ok (.aload_n 0, 1) := by decide +kernel
theorem d230_1 : decode prog_13_method_2_code 1 = .ok (.getfield 87, 3) := by decide +kernel
theorem f230_87 : xFd (xMo 230) 87 = some (11, 11) := by decide +kernel
theorem d230_4 : decode prog_13_method_2_code 4 = .ok (.ireturn, 1) := by decide +kernel
set_option maxRecDepth 100000 in
theorem q231 : xMc 231 = prog_13_method_82_code := rfl
theorem m231 : xMl 231 = 2 ∧ xMret 231 = (some FieldType.int) ∧ xMh 231 = [] := by decide +kernel
theorem e231 {X : xX} {d : Nat} {w : xH} {Q : xO → xH → Prop} (a : Nat) (x0 : Int32) : Cw X d 231 [.ref a, .int x0] w Q = Wx X d 231 0 [some (.ref a), some (.int x0)] [] w Q := by
  unfold Cw
  rw [m231.1]
  rfl
theorem d231_0 : decode prog_13_method_82_code 0 = .ok (.aload_n 0, 1) := by decide +kernel
theorem d231_1 : decode prog_13_method_82_code 1 = .ok (.iconst 0, 1) := by decide +kernel
theorem d231_2 : decode prog_13_method_82_code 2 = .ok (.putfield 87, 3) := by decide +kernel
theorem f231_87 : xFd (xMo 231) 87 = some (11, 11) := by decide +kernel
theorem d231_5 : decode prog_13_method_82_code 5 = .ok (.iload_n 1, 1) := by decide +kernel
theorem d231_6 : decode prog_13_method_82_code 6 = .ok (.bipush 32, 2) := by decide +kernel
theorem d231_8 : decode prog_13_method_82_code 8 = .ok (.bipush 126, 2) := by decide +kernel
theorem d231_10 : decode prog_13_method_82_code 10 = .ok (.invokestatic 91, 3) := by decide +kernel
theorem k231_91_99 : xCa (xMo 231) 91 99 = some (0, 232, 3) := by decide +kernel
theorem d231_13 : decode prog_13_method_82_code 13 = .ok (.ifCond .ne 9, 3) := by decide +kernel
theorem d231_16 : decode prog_13_method_82_code 16 = .ok (.aload_n 0, 1) := by decide +kernel
theorem d231_17 : decode prog_13_method_82_code 17 = .ok (.iconst 1, 1) := by decide +kernel
theorem d231_18 : decode prog_13_method_82_code 18 = .ok (.invokevirtual 382, 3) := by decide +kernel
theorem k231_382_11 : xCa (xMo 231) 382 11 = some (1, 233, 1) := by decide +kernel
theorem n231_382 : xcn (xMo 231) 382 = some 1 := by decide +kernel
theorem d231_21 : decode prog_13_method_82_code 21 = .ok (.ireturn, 1) := by decide +kernel
theorem d231_22 : decode prog_13_method_82_code 22 = .ok (.aload_n 0, 1) := by decide +kernel
theorem d231_23 : decode prog_13_method_82_code 23 = .ok (.getfield 279, 3) := by decide +kernel
theorem f231_279 : xFd (xMo 231) 279 = some (11, 10) := by decide +kernel
theorem d231_26 : decode prog_13_method_82_code 26 = .ok (.bipush 60, 2) := by decide +kernel
theorem d231_28 : decode prog_13_method_82_code 28 = .ok (.if_icmp .ne 9, 3) := by decide +kernel
theorem d231_31 : decode prog_13_method_82_code 31 = .ok (.aload_n 0, 1) := by decide +kernel
theorem d231_32 : decode prog_13_method_82_code 32 = .ok (.iconst 2, 1) := by decide +kernel
theorem d231_33 : decode prog_13_method_82_code 33 = .ok (.invokevirtual 382, 3) := by decide +kernel
theorem d231_36 : decode prog_13_method_82_code 36 = .ok (.ireturn, 1) := by decide +kernel
theorem d231_37 : decode prog_13_method_82_code 37 = .ok (.aload_n 0, 1) := by decide +kernel
theorem d231_38 : decode prog_13_method_82_code 38 = .ok (.getfield 28, 3) := by decide +kernel
theorem f231_28 : xFd (xMo 231) 28 = some (11, 9) := by decide +kernel
theorem d231_41 : decode prog_13_method_82_code 41 = .ok (.aload_n 0, 1) := by decide +kernel
theorem d231_42 : decode prog_13_method_82_code 42 = .ok (.getfield 279, 3) := by decide +kernel
theorem d231_45 : decode prog_13_method_82_code 45 = .ok (.iload_n 1, 1) := by decide +kernel
theorem d231_46 : decode prog_13_method_82_code 46 = .ok (.iastore, 1) := by decide +kernel
theorem d231_47 : decode prog_13_method_82_code 47 = .ok (.aload_n 0, 1) := by decide +kernel
theorem d231_48 : decode prog_13_method_82_code 48 = .ok (.dup, 1) := by decide +kernel
theorem d231_49 : decode prog_13_method_82_code 49 = .ok (.getfield 279, 3) := by decide +kernel
theorem d231_52 : decode prog_13_method_82_code 52 = .ok (.iconst 1, 1) := by decide +kernel
theorem d231_53 : decode prog_13_method_82_code 53 = .ok (.iadd, 1) := by decide +kernel
theorem d231_54 : decode prog_13_method_82_code 54 = .ok (.putfield 279, 3) := by decide +kernel
theorem d231_57 : decode prog_13_method_82_code 57 = .ok (.aload_n 0, 1) := by decide +kernel
theorem d231_58 : decode prog_13_method_82_code 58 = .ok (.getfield 279, 3) := by decide +kernel
theorem d231_61 : decode prog_13_method_82_code 61 = .ok (.ireturn, 1) := by decide +kernel
set_option maxRecDepth 100000 in
theorem q232 : xMc 232 = prog_13_method_5_code := rfl
theorem m232 : xMl 232 = 3 ∧ xMret 232 = (some FieldType.boolean) ∧ xMh 232 = [] := by decide +kernel
theorem e232 {X : xX} {d : Nat} {w : xH} {Q : xO → xH → Prop} (x0 : Int32) (x1 : Int32) (x2 : Int32) : Cw X d 232 [.int x0, .int x1, .int x2] w Q = Wx X d 232 0 [some (.int x0), some (.int x1), some (.int x2)] [] w Q := by
  unfold Cw
  rw [m232.1]
  rfl
theorem d232_0 : decode prog_13_method_5_code 0 = .ok (.iload_n 0, 1) := by decide +kernel
theorem d232_1 : decode prog_13_method_5_code 1 = .ok (.iload_n 1, 1) := by decide +kernel
theorem d232_2 : decode prog_13_method_5_code 2 = .ok (.if_icmp .lt 12, 3) := by decide +kernel
theorem d232_5 : decode prog_13_method_5_code 5 = .ok (.iload_n 0, 1) := by decide +kernel
theorem d232_6 : decode prog_13_method_5_code 6 = .ok (.iload_n 2, 1) := by decide +kernel
theorem d232_7 : decode prog_13_method_5_code 7 = .ok (.if_icmp .gt 7, 3) := by decide +kernel
theorem d232_10 : decode prog_13_method_5_code 10 = .ok (.iconst 1, 1) := by decide +kernel
theorem d232_11 : decode prog_13_method_5_code 11 = .ok (.goto 4, 3) := by decide +kernel
theorem d232_14 : decode prog_13_method_5_code 14 = .ok (.iconst 0, 1) := by decide +kernel
theorem d232_15 : decode prog_13_method_5_code 15 = .ok (.ireturn, 1) := by decide +kernel
set_option maxRecDepth 100000 in
theorem q233 : xMc 233 = prog_13_method_3_code := rfl
theorem m233 : xMl 233 = 2 ∧ xMret 233 = (some FieldType.int) ∧ xMh 233 = [] := by decide +kernel
theorem e233 {X : xX} {d : Nat} {w : xH} {Q : xO → xH → Prop} (a : Nat) (x0 : Int32) : Cw X d 233 [.ref a, .int x0] w Q = Wx X d 233 0 [some (.ref a), some (.int x0)] [] w Q := by
  unfold Cw
  rw [m233.1]
  rfl
theorem d233_0 : decode prog_13_method_3_code 0 = .ok (.aload_n 0, 1) := by decide +kernel
theorem d233_1 : decode prog_13_method_3_code 1 = .ok (.iload_n 1, 1) := by decide +kernel
theorem d233_2 : decode prog_13_method_3_code 2 = .ok (.putfield 87, 3) := by decide +kernel
theorem f233_87 : xFd (xMo 233) 87 = some (11, 11) := by decide +kernel
theorem d233_5 : decode prog_13_method_3_code 5 = .ok (.iconst 0, 1) := by decide +kernel
theorem d233_6 : decode prog_13_method_3_code 6 = .ok (.ireturn, 1) := by decide +kernel
set_option maxRecDepth 100000 in
theorem q234 : xMc 234 = prog_13_method_83_code := rfl
theorem m234 : xMl 234 = 2 ∧ xMret 234 = (some FieldType.int) ∧ xMh 234 = [] := by decide +kernel
theorem e234 {X : xX} {d : Nat} {w : xH} {Q : xO → xH → Prop} (a : Nat) : Cw X d 234 [.ref a] w Q = Wx X d 234 0 [some (.ref a), none] [] w Q := by
  unfold Cw
  rw [m234.1]
  rfl
theorem d234_0 : decode prog_13_method_83_code 0 = .ok (.aload_n 0, 1) := by decide +kernel
theorem d234_1 : decode prog_13_method_83_code 1 = .ok (.iconst 0, 1) := by decide +kernel
theorem d234_2 : decode prog_13_method_83_code 2 = .ok (.putfield 87, 3) := by decide +kernel
theorem f234_87 : xFd (xMo 234) 87 = some (11, 11) := by decide +kernel
theorem d234_5 : decode prog_13_method_83_code 5 = .ok (.aload_n 0, 1) := by decide +kernel
theorem d234_6 : decode prog_13_method_83_code 6 = .ok (.getfield 279, 3) := by decide +kernel
theorem f234_279 : xFd (xMo 234) 279 = some (11, 10) := by decide +kernel
theorem d234_9 : decode prog_13_method_83_code 9 = .ok (.istore_n 1, 1) := by decide +kernel
theorem d234_10 : decode prog_13_method_83_code 10 = .ok (.aload_n 0, 1) := by decide +kernel
theorem d234_11 : decode prog_13_method_83_code 11 = .ok (.iconst 0, 1) := by decide +kernel
theorem d234_12 : decode prog_13_method_83_code 12 = .ok (.putfield 279, 3) := by decide +kernel
theorem d234_15 : decode prog_13_method_83_code 15 = .ok (.iload_n 1, 1) := by decide +kernel
theorem d234_16 : decode prog_13_method_83_code 16 = .ok (.ireturn, 1) := by decide +kernel
set_option maxRecDepth 100000 in
theorem q235 : xMc 235 = prog_13_method_84_code := rfl
theorem m235 : xMl 235 = 1 ∧ xMret 235 = (some FieldType.int) ∧ xMh 235 = [] := by decide +kernel
theorem e235 {X : xX} {d : Nat} {w : xH} {Q : xO → xH → Prop} (a : Nat) : Cw X d 235 [.ref a] w Q = Wx X d 235 0 [some (.ref a)] [] w Q := by
  unfold Cw
  rw [m235.1]
  rfl
theorem d235_0 : decode prog_13_method_84_code 0 = .ok (.aload_n 0, 1) := by decide +kernel
theorem d235_1 : decode prog_13_method_84_code 1 = .ok (.iconst 0, 1) := by decide +kernel
theorem d235_2 : decode prog_13_method_84_code 2 = .ok (.putfield 87, 3) := by decide +kernel
theorem f235_87 : xFd (xMo 235) 87 = some (11, 11) := by decide +kernel
theorem d235_5 : decode prog_13_method_84_code 5 = .ok (.aload_n 0, 1) := by decide +kernel
theorem d235_6 : decode prog_13_method_84_code 6 = .ok (.invokevirtual 385, 3) := by decide +kernel
theorem k235_385_11 : xCa (xMo 235) 385 11 = some (1, 236, 0) := by decide +kernel
theorem n235_385 : xcn (xMo 235) 385 = some 0 := by decide +kernel
theorem d235_9 : decode prog_13_method_84_code 9 = .ok (.ifCond .eq 7, 3) := by decide +kernel
theorem d235_12 : decode prog_13_method_84_code 12 = .ok (.iconst (-1), 1) := by decide +kernel
theorem d235_13 : decode prog_13_method_84_code 13 = .ok (.goto 7, 3) := by decide +kernel
theorem d235_16 : decode prog_13_method_84_code 16 = .ok (.aload_n 0, 1) := by decide +kernel
theorem d235_17 : decode prog_13_method_84_code 17 = .ok (.getfield 276, 3) := by decide +kernel
theorem f235_276 : xFd (xMo 235) 276 = some (11, 35) := by decide +kernel
theorem d235_20 : decode prog_13_method_84_code 20 = .ok (.ireturn, 1) := by decide +kernel
set_option maxRecDepth 100000 in
theorem q236 : xMc 236 = prog_13_method_78_code := rfl
theorem m236 : xMl 236 = 1 ∧ xMret 236 = (some FieldType.boolean) ∧ xMh 236 = [] := by decide +kernel
theorem e236 {X : xX} {d : Nat} {w : xH} {Q : xO → xH → Prop} (a : Nat) : Cw X d 236 [.ref a] w Q = Wx X d 236 0 [some (.ref a)] [] w Q := by
  unfold Cw
  rw [m236.1]
  rfl
theorem d236_0 : decode prog_13_method_78_code 0 = .ok (.aload_n 0, 1) := by decide +kernel
theorem d236_1 : decode prog_13_method_78_code 1 = .ok (.iconst 0, 1) := by decide +kernel
theorem d236_2 : decode prog_13_method_78_code 2 = .ok (.putfield 276, 3) := by decide +kernel
theorem f236_276 : xFd (xMo 236) 276 = some (11, 35) := by decide +kernel
theorem d236_5 : decode prog_13_method_78_code 5 = .ok (.aload_n 0, 1) := by decide +kernel
theorem d236_6 : decode prog_13_method_78_code 6 = .ok (.iconst 1, 1) := by decide +kernel
theorem d236_7 : decode prog_13_method_78_code 7 = .ok (.putfield 282, 3) := by decide +kernel
theorem f236_282 : xFd (xMo 236) 282 = some (11, 36) := by decide +kernel
theorem d236_10 : decode prog_13_method_78_code 10 = .ok (.aload_n 0, 1) := by decide +kernel
theorem d236_11 : decode prog_13_method_78_code 11 = .ok (.iconst 0, 1) := by decide +kernel
theorem d236_12 : decode prog_13_method_78_code 12 = .ok (.invokevirtual 370, 3) := by decide +kernel
theorem k236_370_11 : xCa (xMo 236) 370 11 = some (1, 237, 1) := by decide +kernel
theorem n236_370 : xcn (xMo 236) 370 = some 1 := by decide +kernel
theorem d236_15 : decode prog_13_method_78_code 15 = .ok (.aload_n 0, 1) := by decide +kernel
theorem d236_16 : decode prog_13_method_78_code 16 = .ok (.getfield 282, 3) := by decide +kernel
theorem d236_19 : decode prog_13_method_78_code 19 = .ok (.ireturn, 1) := by decide +kernel
set_option maxRecDepth 100000 in
theorem q237 : xMc 237 = prog_13_method_77_code := rfl
theorem m237 : xMl 237 = 3 ∧ xMret 237 = none ∧ xMh 237 = [] := by decide +kernel
theorem e237 {X : xX} {d : Nat} {w : xH} {Q : xO → xH → Prop} (a : Nat) (x0 : Int32) : Cw X d 237 [.ref a, .int x0] w Q = Wx X d 237 0 [some (.ref a), some (.int x0), none] [] w Q := by
  unfold Cw
  rw [m237.1]
  rfl
theorem d237_0 : decode prog_13_method_77_code 0 = .ok (.aload_n 0, 1) := by decide +kernel
theorem d237_1 : decode prog_13_method_77_code 1 = .ok (.iconst 0, 1) := by decide +kernel
theorem d237_2 : decode prog_13_method_77_code 2 = .ok (.putfield 285, 3) := by decide +kernel
theorem f237_285 : xFd (xMo 237) 285 = some (11, 32) := by decide +kernel
theorem d237_5 : decode prog_13_method_77_code 5 = .ok (.aload_n 0, 1) := by decide +kernel
theorem d237_6 : decode prog_13_method_77_code 6 = .ok (.iconst 0, 1) := by decide +kernel
theorem d237_7 : decode prog_13_method_77_code 7 = .ok (.putfield 364, 3) := by decide +kernel
theorem f237_364 : xFd (xMo 237) 364 = some (11, 34) := by decide +kernel
theorem d237_10 : decode prog_13_method_77_code 10 = .ok (.aload_n 0, 1) := by decide +kernel
theorem d237_11 : decode prog_13_method_77_code 11 = .ok (.iconst 0, 1) := by decide +kernel
theorem d237_12 : decode prog_13_method_77_code 12 = .ok (.putfield 358, 3) := by decide +kernel
theorem f237_358 : xFd (xMo 237) 358 = some (11, 33) := by decide +kernel
theorem d237_15 : decode prog_13_method_77_code 15 = .ok (.aload_n 0, 1) := by decide +kernel
theorem d237_16 : decode prog_13_method_77_code 16 = .ok (.getfield 282, 3) := by decide +kernel
theorem f237_282 : xFd (xMo 237) 282 = some (11, 36) := by decide +kernel
theorem d237_19 : decode prog_13_method_77_code 19 = .ok (.ifCond .eq 20, 3) := by decide +kernel
theorem d237_22 : decode prog_13_method_77_code 22 = .ok (.aload_n 0, 1) := by decide +kernel
theorem d237_23 : decode prog_13_method_77_code 23 = .ok (.invokevirtual 288, 3) := by decide +kernel
theorem k237_288_11 : xCa (xMo 237) 288 11 = some (1, 238, 0) := by decide +kernel
theorem n237_288 : xcn (xMo 237) 288 = some 0 := by decide +kernel
theorem d237_26 : decode prog_13_method_77_code 26 = .ok (.bipush 61, 2) := by decide +kernel
theorem d237_28 : decode prog_13_method_77_code 28 = .ok (.if_icmp .ne 11, 3) := by decide +kernel
theorem d237_31 : decode prog_13_method_77_code 31 = .ok (.aload_n 0, 1) := by decide +kernel
theorem d237_32 : decode prog_13_method_77_code 32 = .ok (.iload_n 1, 1) := by decide +kernel
theorem d237_33 : decode prog_13_method_77_code 33 = .ok (.invokevirtual 367, 3) := by decide +kernel
theorem k237_367_11 : xCa (xMo 237) 367 11 = some (1, 239, 1) := by decide +kernel
theorem n237_367 : xcn (xMo 237) 367 = some 1 := by decide +kernel
theorem d237_36 : decode prog_13_method_77_code 36 = .ok (.goto 108, 3) := by decide +kernel
theorem d237_39 : decode prog_13_method_77_code 39 = .ok (.aload_n 0, 1) := by decide +kernel
theorem d237_40 : decode prog_13_method_77_code 40 = .ok (.getfield 282, 3) := by decide +kernel
theorem d237_43 : decode prog_13_method_77_code 43 = .ok (.ifCond .eq 101, 3) := by decide +kernel
theorem d237_46 : decode prog_13_method_77_code 46 = .ok (.aload_n 0, 1) := by decide +kernel
theorem d237_47 : decode prog_13_method_77_code 47 = .ok (.invokevirtual 288, 3) := by decide +kernel
theorem d237_50 : decode prog_13_method_77_code 50 = .ok (.iload_n 1, 1) := by decide +kernel
theorem d237_51 : decode prog_13_method_77_code 51 = .ok (.if_icmp .eq 93, 3) := by decide +kernel
theorem d237_54 : decode prog_13_method_77_code 54 = .ok (.aload_n 0, 1) := by decide +kernel
theorem d237_55 : decode prog_13_method_77_code 55 = .ok (.iconst 1, 1) := by decide +kernel
theorem d237_56 : decode prog_13_method_77_code 56 = .ok (.putfield 358, 3) := by decide +kernel
theorem d237_59 : decode prog_13_method_77_code 59 = .ok (.aload_n 0, 1) := by decide +kernel
theorem d237_60 : decode prog_13_method_77_code 60 = .ok (.invokevirtual 288, 3) := by decide +kernel
theorem d237_63 : decode prog_13_method_77_code 63 = .ok (.bipush 45, 2) := by decide +kernel
theorem d237_65 : decode prog_13_method_77_code 65 = .ok (.if_icmp .ne 7, 3) := by decide +kernel
theorem d237_68 : decode prog_13_method_77_code 68 = .ok (.iconst 1, 1) := by decide +kernel
theorem d237_69 : decode prog_13_method_77_code 69 = .ok (.goto 4, 3) := by decide +kernel
theorem d237_72 : decode prog_13_method_77_code 72 = .ok (.iconst 0, 1) := by decide +kernel
theorem d237_73 : decode prog_13_method_77_code 73 = .ok (.istore_n 2, 1) := by decide +kernel
theorem d237_74 : decode prog_13_method_77_code 74 = .ok (.aload_n 0, 1) := by decide +kernel
theorem d237_75 : decode prog_13_method_77_code 75 = .ok (.dup, 1) := by decide +kernel
theorem d237_76 : decode prog_13_method_77_code 76 = .ok (.getfield 276, 3) := by decide +kernel
theorem f237_276 : xFd (xMo 237) 276 = some (11, 35) := by decide +kernel
theorem d237_79 : decode prog_13_method_77_code 79 = .ok (.iload_n 2, 1) := by decide +kernel
theorem d237_80 : decode prog_13_method_77_code 80 = .ok (.ifCond .eq 7, 3) := by decide +kernel
theorem d237_83 : decode prog_13_method_77_code 83 = .ok (.iconst 1, 1) := by decide +kernel
theorem d237_84 : decode prog_13_method_77_code 84 = .ok (.goto 4, 3) := by decide +kernel
theorem d237_87 : decode prog_13_method_77_code 87 = .ok (.iconst 0, 1) := by decide +kernel
theorem d237_88 : decode prog_13_method_77_code 88 = .ok (.iadd, 1) := by decide +kernel
theorem d237_89 : decode prog_13_method_77_code 89 = .ok (.putfield 276, 3) := by decide +kernel
theorem d237_92 : decode prog_13_method_77_code 92 = .ok (.aload_n 0, 1) := by decide +kernel
theorem d237_93 : decode prog_13_method_77_code 93 = .ok (.aload_n 0, 1) := by decide +kernel
theorem d237_94 : decode prog_13_method_77_code 94 = .ok (.invokevirtual 331, 3) := by decide +kernel
theorem k237_331_11 : xCa (xMo 237) 331 11 = some (1, 244, 0) := by decide +kernel
theorem n237_331 : xcn (xMo 237) 331 = some 0 := by decide +kernel
theorem d237_97 : decode prog_13_method_77_code 97 = .ok (.putfield 364, 3) := by decide +kernel
theorem d237_100 : decode prog_13_method_77_code 100 = .ok (.aload_n 0, 1) := by decide +kernel
theorem d237_101 : decode prog_13_method_77_code 101 = .ok (.iload_n 2, 1) := by decide +kernel
theorem d237_102 : decode prog_13_method_77_code 102 = .ok (.ifCond .eq 11, 3) := by decide +kernel
theorem d237_105 : decode prog_13_method_77_code 105 = .ok (.aload_n 0, 1) := by decide +kernel
theorem d237_106 : decode prog_13_method_77_code 106 = .ok (.getfield 364, 3) := by decide +kernel
theorem d237_109 : decode prog_13_method_77_code 109 = .ok (.ineg, 1) := by decide +kernel
theorem d237_110 : decode prog_13_method_77_code 110 = .ok (.goto 7, 3) := by decide +kernel
theorem d237_113 : decode prog_13_method_77_code 113 = .ok (.aload_n 0, 1) := by decide +kernel
theorem d237_114 : decode prog_13_method_77_code 114 = .ok (.getfield 364, 3) := by decide +kernel
theorem d237_117 : decode prog_13_method_77_code 117 = .ok (.putfield 364, 3) := by decide +kernel
theorem d237_120 : decode prog_13_method_77_code 120 = .ok (.aload_n 0, 1) := by decide +kernel
theorem d237_121 : decode prog_13_method_77_code 121 = .ok (.aload_n 0, 1) := by decide +kernel
theorem d237_122 : decode prog_13_method_77_code 122 = .ok (.getfield 282, 3) := by decide +kernel
theorem d237_125 : decode prog_13_method_77_code 125 = .ok (.ifCond .eq 15, 3) := by decide +kernel
theorem d237_128 : decode prog_13_method_77_code 128 = .ok (.aload_n 0, 1) := by decide +kernel
theorem d237_129 : decode prog_13_method_77_code 129 = .ok (.invokevirtual 288, 3) := by decide +kernel
theorem d237_132 : decode prog_13_method_77_code 132 = .ok (.iload_n 1, 1) := by decide +kernel
theorem d237_133 : decode prog_13_method_77_code 133 = .ok (.if_icmp .ne 7, 3) := by decide +kernel
theorem d237_136 : decode prog_13_method_77_code 136 = .ok (.iconst 1, 1) := by decide +kernel
theorem d237_137 : decode prog_13_method_77_code 137 = .ok (.goto 4, 3) := by decide +kernel
theorem d237_140 : decode prog_13_method_77_code 140 = .ok (.iconst 0, 1) := by decide +kernel
theorem d237_141 : decode prog_13_method_77_code 141 = .ok (.putfield 282, 3) := by decide +kernel
theorem d237_144 : decode prog_13_method_77_code 144 = .ok (.return_, 1) := by decide +kernel
set_option maxRecDepth 100000 in
theorem q238 : xMc 238 = prog_13_method_57_code := rfl
theorem m238 : xMl 238 = 1 ∧ xMret 238 = (some FieldType.int) ∧ xMh 238 = [] := by decide +kernel
theorem e238 {X : xX} {d : Nat} {w : xH} {Q : xO → xH → Prop} (a : Nat) : Cw X d 238 [.ref a] w Q = Wx X d 238 0 [some (.ref a)] [] w Q := by
  unfold Cw
  rw [m238.1]
  rfl
theorem d238_0 : decode prog_13_method_57_code 0 = .ok (.aload_n 0, 1) := by decide +kernel
theorem d238_1 : decode prog_13_method_57_code 1 = .ok (.getfield 276, 3) := by decide +kernel
theorem f238_276 : xFd (xMo 238) 276 = some (11, 35) := by decide +kernel
theorem d238_4 : decode prog_13_method_57_code 4 = .ok (.aload_n 0, 1) := by decide +kernel
theorem d238_5 : decode prog_13_method_57_code 5 = .ok (.getfield 279, 3) := by decide +kernel
theorem f238_279 : xFd (xMo 238) 279 = some (11, 10) := by decide +kernel
theorem d238_8 : decode prog_13_method_57_code 8 = .ok (.if_icmp .ge 15, 3) := by decide +kernel
theorem d238_11 : decode prog_13_method_57_code 11 = .ok (.aload_n 0, 1) := by decide +kernel
theorem d238_12 : decode prog_13_method_57_code 12 = .ok (.getfield 28, 3) := by decide +kernel
theorem f238_28 : xFd (xMo 238) 28 = some (11, 9) := by decide +kernel
theorem d238_15 : decode prog_13_method_57_code 15 = .ok (.aload_n 0, 1) := by decide +kernel
theorem d238_16 : decode prog_13_method_57_code 16 = .ok (.getfield 276, 3) := by decide +kernel
theorem d238_19 : decode prog_13_method_57_code 19 = .ok (.iaload, 1) := by decide +kernel
theorem d238_20 : decode prog_13_method_57_code 20 = .ok (.goto 4, 3) := by decide +kernel
theorem d238_23 : decode prog_13_method_57_code 23 = .ok (.iconst 0, 1) := by decide +kernel
theorem d238_24 : decode prog_13_method_57_code 24 = .ok (.ireturn, 1) := by decide +kernel
set_option maxRecDepth 100000 in
theorem q239 : xMc 239 = prog_13_method_76_code := rfl
theorem m239 : xMl 239 = 2 ∧ xMret 239 = none ∧ xMh 239 = [] := by decide +kernel
theorem e239 {X : xX} {d : Nat} {w : xH} {Q : xO → xH → Prop} (a : Nat) (x0 : Int32) : Cw X d 239 [.ref a, .int x0] w Q = Wx X d 239 0 [some (.ref a), some (.int x0)] [] w Q := by
  unfold Cw
  rw [m239.1]
  rfl
theorem d239_0 : decode prog_13_method_76_code 0 = .ok (.aload_n 0, 1) := by decide +kernel
theorem d239_1 : decode prog_13_method_76_code 1 = .ok (.iconst 2, 1) := by decide +kernel
theorem d239_2 : decode prog_13_method_76_code 2 = .ok (.putfield 358, 3) := by decide +kernel
theorem f239_358 : xFd (xMo 239) 358 = some (11, 33) := by decide +kernel
theorem d239_5 : decode prog_13_method_76_code 5 = .ok (.aload_n 0, 1) := by decide +kernel
theorem d239_6 : decode prog_13_method_76_code 6 = .ok (.dup, 1) := by decide +kernel
theorem d239_7 : decode prog_13_method_76_code 7 = .ok (.getfield 276, 3) := by decide +kernel
theorem f239_276 : xFd (xMo 239) 276 = some (11, 35) := by decide +kernel
theorem d239_10 : decode prog_13_method_76_code 10 = .ok (.iconst 1, 1) := by decide +kernel
theorem d239_11 : decode prog_13_method_76_code 11 = .ok (.iadd, 1) := by decide +kernel
theorem d239_12 : decode prog_13_method_76_code 12 = .ok (.putfield 276, 3) := by decide +kernel
theorem d239_15 : decode prog_13_method_76_code 15 = .ok (.aload_n 0, 1) := by decide +kernel
theorem d239_16 : decode prog_13_method_76_code 16 = .ok (.iconst 0, 1) := by decide +kernel
theorem d239_17 : decode prog_13_method_76_code 17 = .ok (.putfield 304, 3) := by decide +kernel
theorem f239_304 : xFd (xMo 239) 304 = some (11, 40) := by decide +kernel
theorem d239_20 : decode prog_13_method_76_code 20 = .ok (.aload_n 0, 1) := by decide +kernel
theorem d239_21 : decode prog_13_method_76_code 21 = .ok (.getfield 74, 3) := by decide +kernel
theorem f239_74 : xFd (xMo 239) 74 = some (11, 37) := by decide +kernel
theorem d239_24 : decode prog_13_method_76_code 24 = .ok (.iconst 0, 1) := by decide +kernel
theorem d239_25 : decode prog_13_method_76_code 25 = .ok (.iconst 0, 1) := by decide +kernel
theorem d239_26 : decode prog_13_method_76_code 26 = .ok (.iastore, 1) := by decide +kernel
theorem d239_27 : decode prog_13_method_76_code 27 = .ok (.aload_n 0, 1) := by decide +kernel
theorem d239_28 : decode prog_13_method_76_code 28 = .ok (.getfield 77, 3) := by decide +kernel
theorem f239_77 : xFd (xMo 239) 77 = some (11, 38) := by decide +kernel
theorem d239_31 : decode prog_13_method_76_code 31 = .ok (.iconst 0, 1) := by decide +kernel
theorem d239_32 : decode prog_13_method_76_code 32 = .ok (.iconst 0, 1) := by decide +kernel
theorem d239_33 : decode prog_13_method_76_code 33 = .ok (.bastore, 1) := by decide +kernel
theorem d239_34 : decode prog_13_method_76_code 34 = .ok (.aload_n 0, 1) := by decide +kernel
theorem d239_35 : decode prog_13_method_76_code 35 = .ok (.iconst 0, 1) := by decide +kernel
theorem d239_36 : decode prog_13_method_76_code 36 = .ok (.putfield 301, 3) := by decide +kernel
theorem f239_301 : xFd (xMo 239) 301 = some (11, 41) := by decide +kernel
theorem d239_39 : decode prog_13_method_76_code 39 = .ok (.aload_n 0, 1) := by decide +kernel
theorem d239_40 : decode prog_13_method_76_code 40 = .ok (.iconst 0, 1) := by decide +kernel
theorem d239_41 : decode prog_13_method_76_code 41 = .ok (.putfield 307, 3) := by decide +kernel
theorem f239_307 : xFd (xMo 239) 307 = some (11, 42) := by decide +kernel
theorem d239_44 : decode prog_13_method_76_code 44 = .ok (.aload_n 0, 1) := by decide +kernel
theorem d239_45 : decode prog_13_method_76_code 45 = .ok (.iconst 0, 1) := by decide +kernel
theorem d239_46 : decode prog_13_method_76_code 46 = .ok (.putfield 316, 3) := by decide +kernel
theorem f239_316 : xFd (xMo 239) 316 = some (11, 43) := by decide +kernel
theorem d239_49 : decode prog_13_method_76_code 49 = .ok (.aload_n 0, 1) := by decide +kernel
theorem d239_50 : decode prog_13_method_76_code 50 = .ok (.iconst 1, 1) := by decide +kernel
theorem d239_51 : decode prog_13_method_76_code 51 = .ok (.putfield 310, 3) := by decide +kernel
theorem f239_310 : xFd (xMo 239) 310 = some (11, 44) := by decide +kernel
theorem d239_54 : decode prog_13_method_76_code 54 = .ok (.aload_n 0, 1) := by decide +kernel
theorem d239_55 : decode prog_13_method_76_code 55 = .ok (.getfield 282, 3) := by decide +kernel
theorem f239_282 : xFd (xMo 239) 282 = some (11, 36) := by decide +kernel
theorem d239_58 : decode prog_13_method_76_code 58 = .ok (.ifCond .eq 32, 3) := by decide +kernel
theorem d239_61 : decode prog_13_method_76_code 61 = .ok (.aload_n 0, 1) := by decide +kernel
theorem d239_62 : decode prog_13_method_76_code 62 = .ok (.getfield 310, 3) := by decide +kernel
theorem d239_65 : decode prog_13_method_76_code 65 = .ok (.ifCond .ne 18, 3) := by decide +kernel
theorem d239_68 : decode prog_13_method_76_code 68 = .ok (.aload_n 0, 1) := by decide +kernel
theorem d239_69 : decode prog_13_method_76_code 69 = .ok (.getfield 304, 3) := by decide +kernel
theorem d239_72 : decode prog_13_method_76_code 72 = .ok (.ifCond .gt 11, 3) := by decide +kernel
theorem d239_75 : decode prog_13_method_76_code 75 = .ok (.aload_n 0, 1) := by decide +kernel
theorem d239_76 : decode prog_13_method_76_code 76 = .ok (.invokevirtual 288, 3) := by decide +kernel
theorem k239_288_11 : xCa (xMo 239) 288 11 = some (1, 238, 0) := by decide +kernel
theorem n239_288 : xcn (xMo 239) 288 = some 0 := by decide +kernel
theorem d239_79 : decode prog_13_method_76_code 79 = .ok (.iload_n 1, 1) := by decide +kernel
theorem d239_80 : decode prog_13_method_76_code 80 = .ok (.if_icmp .eq 10, 3) := by decide +kernel
theorem d239_83 : decode prog_13_method_76_code 83 = .ok (.aload_n 0, 1) := by decide +kernel
theorem d239_84 : decode prog_13_method_76_code 84 = .ok (.invokevirtual 361, 3) := by decide +kernel
theorem k239_361_11 : xCa (xMo 239) 361 11 = some (1, 240, 0) := by decide +kernel
theorem n239_361 : xcn (xMo 239) 361 = some 0 := by decide +kernel
theorem d239_87 : decode prog_13_method_76_code 87 = .ok (.goto (-33), 3) := by decide +kernel
theorem d239_90 : decode prog_13_method_76_code 90 = .ok (.return_, 1) := by decide +kernel
set_option maxRecDepth 100000 in
theorem q240 : xMc 240 = prog_13_method_75_code := rfl
theorem m240 : xMl 240 = 2 ∧ xMret 240 = none ∧ xMh 240 = [] := by decide +kernel
theorem e240 {X : xX} {d : Nat} {w : xH} {Q : xO → xH → Prop} (a : Nat) : Cw X d 240 [.ref a] w Q = Wx X d 240 0 [some (.ref a), none] [] w Q := by
  unfold Cw
  rw [m240.1]
  rfl
theorem d240_0 : decode prog_13_method_75_code 0 = .ok (.aload_n 0, 1) := by decide +kernel
theorem d240_1 : decode prog_13_method_75_code 1 = .ok (.invokevirtual 288, 3) := by decide +kernel
theorem k240_288_11 : xCa (xMo 240) 288 11 = some (1, 238, 0) := by decide +kernel
theorem n240_288 : xcn (xMo 240) 288 = some 0 := by decide +kernel
theorem d240_4 : decode prog_13_method_75_code 4 = .ok (.istore_n 1, 1) := by decide +kernel
theorem d240_5 : decode prog_13_method_75_code 5 = .ok (.aload_n 0, 1) := by decide +kernel
theorem d240_6 : decode prog_13_method_75_code 6 = .ok (.getfield 310, 3) := by decide +kernel
theorem f240_310 : xFd (xMo 240) 310 = some (11, 44) := by decide +kernel
theorem d240_9 : decode prog_13_method_75_code 9 = .ok (.ifCond .eq 10, 3) := by decide +kernel
theorem d240_12 : decode prog_13_method_75_code 12 = .ok (.aload_n 0, 1) := by decide +kernel
theorem d240_13 : decode prog_13_method_75_code 13 = .ok (.invokevirtual 343, 3) := by decide +kernel
theorem k240_343_11 : xCa (xMo 240) 343 11 = some (1, 241, 0) := by decide +kernel
theorem n240_343 : xcn (xMo 240) 343 = some 0 := by decide +kernel
theorem d240_16 : decode prog_13_method_75_code 16 = .ok (.goto 47, 3) := by decide +kernel
theorem d240_19 : decode prog_13_method_75_code 19 = .ok (.iload_n 1, 1) := by decide +kernel
theorem d240_20 : decode prog_13_method_75_code 20 = .ok (.bipush 44, 2) := by decide +kernel
theorem d240_22 : decode prog_13_method_75_code 22 = .ok (.if_icmp .ne 10, 3) := by decide +kernel
theorem d240_25 : decode prog_13_method_75_code 25 = .ok (.aload_n 0, 1) := by decide +kernel
theorem d240_26 : decode prog_13_method_75_code 26 = .ok (.invokevirtual 346, 3) := by decide +kernel
theorem k240_346_11 : xCa (xMo 240) 346 11 = some (1, 252, 0) := by decide +kernel
theorem n240_346 : xcn (xMo 240) 346 = some 0 := by decide +kernel
theorem d240_29 : decode prog_13_method_75_code 29 = .ok (.goto 34, 3) := by decide +kernel
theorem d240_32 : decode prog_13_method_75_code 32 = .ok (.iload_n 1, 1) := by decide +kernel
theorem d240_33 : decode prog_13_method_75_code 33 = .ok (.bipush 41, 2) := by decide +kernel
theorem d240_35 : decode prog_13_method_75_code 35 = .ok (.if_icmp .ne 10, 3) := by decide +kernel
theorem d240_38 : decode prog_13_method_75_code 38 = .ok (.aload_n 0, 1) := by decide +kernel
theorem d240_39 : decode prog_13_method_75_code 39 = .ok (.invokevirtual 349, 3) := by decide +kernel
theorem k240_349_11 : xCa (xMo 240) 349 11 = some (1, 253, 0) := by decide +kernel
theorem n240_349 : xcn (xMo 240) 349 = some 0 := by decide +kernel
theorem d240_42 : decode prog_13_method_75_code 42 = .ok (.goto 21, 3) := by decide +kernel
theorem d240_45 : decode prog_13_method_75_code 45 = .ok (.iload_n 1, 1) := by decide +kernel
theorem d240_46 : decode prog_13_method_75_code 46 = .ok (.bipush 58, 2) := by decide +kernel
theorem d240_48 : decode prog_13_method_75_code 48 = .ok (.if_icmp .ne 10, 3) := by decide +kernel
theorem d240_51 : decode prog_13_method_75_code 51 = .ok (.aload_n 0, 1) := by decide +kernel
theorem d240_52 : decode prog_13_method_75_code 52 = .ok (.invokevirtual 352, 3) := by decide +kernel
theorem k240_352_11 : xCa (xMo 240) 352 11 = some (1, 254, 0) := by decide +kernel
theorem n240_352 : xcn (xMo 240) 352 = some 0 := by decide +kernel
theorem d240_55 : decode prog_13_method_75_code 55 = .ok (.goto 8, 3) := by decide +kernel
theorem d240_58 : decode prog_13_method_75_code 58 = .ok (.aload_n 0, 1) := by decide +kernel
theorem d240_59 : decode prog_13_method_75_code 59 = .ok (.iload_n 1, 1) := by decide +kernel
theorem d240_60 : decode prog_13_method_75_code 60 = .ok (.invokevirtual 355, 3) := by decide +kernel
theorem k240_355_11 : xCa (xMo 240) 355 11 = some (1, 255, 1) := by decide +kernel
theorem n240_355 : xcn (xMo 240) 355 = some 1 := by decide +kernel
theorem d240_63 : decode prog_13_method_75_code 63 = .ok (.return_, 1) := by decide +kernel
set_option maxRecDepth 100000 in
theorem q241 : xMc 241 = prog_13_method_68_code := rfl
theorem m241 : xMl 241 = 3 ∧ xMret 241 = none ∧ xMh 241 = [] := by decide +kernel
theorem e241 {X : xX} {d : Nat} {w : xH} {Q : xO → xH → Prop} (a : Nat) : Cw X d 241 [.ref a] w Q = Wx X d 241 0 [some (.ref a), none, none] [] w Q := by
  unfold Cw
  rw [m241.1]
  rfl
theorem d241_0 : decode prog_13_method_68_code 0 = .ok (.aload_n 0, 1) := by decide +kernel
theorem d241_1 : decode prog_13_method_68_code 1 = .ok (.invokevirtual 288, 3) := by decide +kernel
theorem k241_288_11 : xCa (xMo 241) 288 11 = some (1, 238, 0) := by decide +kernel
theorem n241_288 : xcn (xMo 241) 288 = some 0 := by decide +kernel
theorem d241_4 : decode prog_13_method_68_code 4 = .ok (.istore_n 1, 1) := by decide +kernel
theorem d241_5 : decode prog_13_method_68_code 5 = .ok (.iload_n 1, 1) := by decide +kernel
theorem d241_6 : decode prog_13_method_68_code 6 = .ok (.bipush 45, 2) := by decide +kernel
theorem d241_8 : decode prog_13_method_68_code 8 = .ok (.if_icmp .ne 27, 3) := by decide +kernel
theorem d241_11 : decode prog_13_method_68_code 11 = .ok (.aload_n 0, 1) := by decide +kernel
theorem d241_12 : decode prog_13_method_68_code 12 = .ok (.bipush 45, 2) := by decide +kernel
theorem d241_14 : decode prog_13_method_68_code 14 = .ok (.invokevirtual 298, 3) := by decide +kernel
theorem k241_298_11 : xCa (xMo 241) 298 11 = some (1, 242, 1) := by decide +kernel
theorem n241_298 : xcn (xMo 241) 298 = some 1 := by decide +kernel
theorem d241_17 : decode prog_13_method_68_code 17 = .ok (.aload_n 0, 1) := by decide +kernel
theorem d241_18 : decode prog_13_method_68_code 18 = .ok (.dup, 1) := by decide +kernel
theorem d241_19 : decode prog_13_method_68_code 19 = .ok (.getfield 276, 3) := by decide +kernel
theorem f241_276 : xFd (xMo 241) 276 = some (11, 35) := by decide +kernel
theorem d241_22 : decode prog_13_method_68_code 22 = .ok (.iconst 1, 1) := by decide +kernel
theorem d241_23 : decode prog_13_method_68_code 23 = .ok (.iadd, 1) := by decide +kernel
theorem d241_24 : decode prog_13_method_68_code 24 = .ok (.putfield 276, 3) := by decide +kernel
theorem d241_27 : decode prog_13_method_68_code 27 = .ok (.aload_n 0, 1) := by decide +kernel
theorem d241_28 : decode prog_13_method_68_code 28 = .ok (.iconst 0, 1) := by decide +kernel
theorem d241_29 : decode prog_13_method_68_code 29 = .ok (.putfield 301, 3) := by decide +kernel
theorem f241_301 : xFd (xMo 241) 301 = some (11, 41) := by decide +kernel
theorem d241_32 : decode prog_13_method_68_code 32 = .ok (.goto 80, 3) := by decide +kernel
theorem d241_35 : decode prog_13_method_68_code 35 = .ok (.iload_n 1, 1) := by decide +kernel
theorem d241_36 : decode prog_13_method_68_code 36 = .ok (.bipush 40, 2) := by decide +kernel
theorem d241_38 : decode prog_13_method_68_code 38 = .ok (.if_icmp .ne 27, 3) := by decide +kernel
theorem d241_41 : decode prog_13_method_68_code 41 = .ok (.aload_n 0, 1) := by decide +kernel
theorem d241_42 : decode prog_13_method_68_code 42 = .ok (.dup, 1) := by decide +kernel
theorem d241_43 : decode prog_13_method_68_code 43 = .ok (.getfield 276, 3) := by decide +kernel
theorem d241_46 : decode prog_13_method_68_code 46 = .ok (.iconst 1, 1) := by decide +kernel
theorem d241_47 : decode prog_13_method_68_code 47 = .ok (.iadd, 1) := by decide +kernel
theorem d241_48 : decode prog_13_method_68_code 48 = .ok (.putfield 276, 3) := by decide +kernel
theorem d241_51 : decode prog_13_method_68_code 51 = .ok (.aload_n 0, 1) := by decide +kernel
theorem d241_52 : decode prog_13_method_68_code 52 = .ok (.bipush 40, 2) := by decide +kernel
theorem d241_54 : decode prog_13_method_68_code 54 = .ok (.invokevirtual 298, 3) := by decide +kernel
theorem d241_57 : decode prog_13_method_68_code 57 = .ok (.aload_n 0, 1) := by decide +kernel
theorem d241_58 : decode prog_13_method_68_code 58 = .ok (.iconst 1, 1) := by decide +kernel
theorem d241_59 : decode prog_13_method_68_code 59 = .ok (.invokevirtual 319, 3) := by decide +kernel
theorem k241_319_11 : xCa (xMo 241) 319 11 = some (1, 243, 1) := by decide +kernel
theorem n241_319 : xcn (xMo 241) 319 = some 1 := by decide +kernel
theorem d241_62 : decode prog_13_method_68_code 62 = .ok (.goto 50, 3) := by decide +kernel
theorem d241_65 : decode prog_13_method_68_code 65 = .ok (.iload_n 1, 1) := by decide +kernel
theorem d241_66 : decode prog_13_method_68_code 66 = .ok (.bipush 48, 2) := by decide +kernel
theorem d241_68 : decode prog_13_method_68_code 68 = .ok (.bipush 57, 2) := by decide +kernel
theorem d241_70 : decode prog_13_method_68_code 70 = .ok (.invokestatic 91, 3) := by decide +kernel
theorem k241_91_99 : xCa (xMo 241) 91 99 = some (0, 232, 3) := by decide +kernel
theorem d241_73 : decode prog_13_method_68_code 73 = .ok (.ifCond .eq 35, 3) := by decide +kernel
theorem d241_76 : decode prog_13_method_68_code 76 = .ok (.aload_n 0, 1) := by decide +kernel
theorem d241_77 : decode prog_13_method_68_code 77 = .ok (.invokevirtual 331, 3) := by decide +kernel
theorem k241_331_11 : xCa (xMo 241) 331 11 = some (1, 244, 0) := by decide +kernel
theorem n241_331 : xcn (xMo 241) 331 = some 0 := by decide +kernel
theorem d241_80 : decode prog_13_method_68_code 80 = .ok (.istore_n 2, 1) := by decide +kernel
theorem d241_81 : decode prog_13_method_68_code 81 = .ok (.aload_n 0, 1) := by decide +kernel
theorem d241_82 : decode prog_13_method_68_code 82 = .ok (.sipush 10000, 3) := by decide +kernel
theorem d241_85 : decode prog_13_method_68_code 85 = .ok (.iload_n 2, 1) := by decide +kernel
theorem d241_86 : decode prog_13_method_68_code 86 = .ok (.iadd, 1) := by decide +kernel
theorem d241_87 : decode prog_13_method_68_code 87 = .ok (.invokevirtual 298, 3) := by decide +kernel
theorem d241_90 : decode prog_13_method_68_code 90 = .ok (.aload_n 0, 1) := by decide +kernel
theorem d241_91 : decode prog_13_method_68_code 91 = .ok (.iconst 0, 1) := by decide +kernel
theorem d241_92 : decode prog_13_method_68_code 92 = .ok (.putfield 301, 3) := by decide +kernel
theorem d241_95 : decode prog_13_method_68_code 95 = .ok (.aload_n 0, 1) := by decide +kernel
theorem d241_96 : decode prog_13_method_68_code 96 = .ok (.iconst 0, 1) := by decide +kernel
theorem d241_97 : decode prog_13_method_68_code 97 = .ok (.putfield 307, 3) := by decide +kernel
theorem f241_307 : xFd (xMo 241) 307 = some (11, 42) := by decide +kernel
theorem d241_100 : decode prog_13_method_68_code 100 = .ok (.aload_n 0, 1) := by decide +kernel
theorem d241_101 : decode prog_13_method_68_code 101 = .ok (.iconst 0, 1) := by decide +kernel
theorem d241_102 : decode prog_13_method_68_code 102 = .ok (.putfield 310, 3) := by decide +kernel
theorem f241_310 : xFd (xMo 241) 310 = some (11, 44) := by decide +kernel
theorem d241_105 : decode prog_13_method_68_code 105 = .ok (.goto 7, 3) := by decide +kernel
theorem d241_108 : decode prog_13_method_68_code 108 = .ok (.aload_n 0, 1) := by decide +kernel
theorem d241_109 : decode prog_13_method_68_code 109 = .ok (.invokevirtual 334, 3) := by decide +kernel
theorem k241_334_11 : xCa (xMo 241) 334 11 = some (1, 246, 0) := by decide +kernel
theorem n241_334 : xcn (xMo 241) 334 = some 0 := by decide +kernel
theorem d241_112 : decode prog_13_method_68_code 112 = .ok (.return_, 1) := by decide +kernel
set_option maxRecDepth 100000 in
theorem q242 : xMc 242 = prog_13_method_59_code := rfl
theorem m242 : xMl 242 = 2 ∧ xMret 242 = none ∧ xMh 242 = [] := by decide +kernel
theorem e242 {X : xX} {d : Nat} {w : xH} {Q : xO → xH → Prop} (a : Nat) (x0 : Int32) : Cw X d 242 [.ref a, .int x0] w Q = Wx X d 242 0 [some (.ref a), some (.int x0)] [] w Q := by
  unfold Cw
  rw [m242.1]
  rfl
theorem d242_0 : decode prog_13_method_59_code 0 = .ok (.aload_n 0, 1) := by decide +kernel
theorem d242_1 : decode prog_13_method_59_code 1 = .ok (.getfield 282, 3) := by decide +kernel
theorem f242_282 : xFd (xMo 242) 282 = some (11, 36) := by decide +kernel
theorem d242_4 : decode prog_13_method_59_code 4 = .ok (.ifCond .eq 23, 3) := by decide +kernel
theorem d242_7 : decode prog_13_method_59_code 7 = .ok (.aload_n 0, 1) := by decide +kernel
theorem d242_8 : decode prog_13_method_59_code 8 = .ok (.getfield 71, 3) := by decide +kernel
theorem f242_71 : xFd (xMo 242) 71 = some (11, 31) := by decide +kernel
theorem d242_11 : decode prog_13_method_59_code 11 = .ok (.aload_n 0, 1) := by decide +kernel
theorem d242_12 : decode prog_13_method_59_code 12 = .ok (.getfield 285, 3) := by decide +kernel
theorem f242_285 : xFd (xMo 242) 285 = some (11, 32) := by decide +kernel
theorem d242_15 : decode prog_13_method_59_code 15 = .ok (.iload_n 1, 1) := by decide +kernel
theorem d242_16 : decode prog_13_method_59_code 16 = .ok (.iastore, 1) := by decide +kernel
theorem d242_17 : decode prog_13_method_59_code 17 = .ok (.aload_n 0, 1) := by decide +kernel
theorem d242_18 : decode prog_13_method_59_code 18 = .ok (.dup, 1) := by decide +kernel
theorem d242_19 : decode prog_13_method_59_code 19 = .ok (.getfield 285, 3) := by decide +kernel
theorem d242_22 : decode prog_13_method_59_code 22 = .ok (.iconst 1, 1) := by decide +kernel
theorem d242_23 : decode prog_13_method_59_code 23 = .ok (.iadd, 1) := by decide +kernel
theorem d242_24 : decode prog_13_method_59_code 24 = .ok (.putfield 285, 3) := by decide +kernel
theorem d242_27 : decode prog_13_method_59_code 27 = .ok (.return_, 1) := by decide +kernel
set_option maxRecDepth 100000 in
theorem q243 : xMc 243 = prog_13_method_64_code := rfl
theorem m243 : xMl 243 = 2 ∧ xMret 243 = none ∧ xMh 243 = [] := by decide +kernel
theorem e243 {X : xX} {d : Nat} {w : xH} {Q : xO → xH → Prop} (a : Nat) (x0 : Int32) : Cw X d 243 [.ref a, .int x0] w Q = Wx X d 243 0 [some (.ref a), some (.int x0)] [] w Q := by
  unfold Cw
  rw [m243.1]
  rfl
theorem d243_0 : decode prog_13_method_64_code 0 = .ok (.aload_n 0, 1) := by decide +kernel
theorem d243_1 : decode prog_13_method_64_code 1 = .ok (.getfield 282, 3) := by decide +kernel
theorem f243_282 : xFd (xMo 243) 282 = some (11, 36) := by decide +kernel
theorem d243_4 : decode prog_13_method_64_code 4 = .ok (.ifCond .eq 67, 3) := by decide +kernel
theorem d243_7 : decode prog_13_method_64_code 7 = .ok (.aload_n 0, 1) := by decide +kernel
theorem d243_8 : decode prog_13_method_64_code 8 = .ok (.dup, 1) := by decide +kernel
theorem d243_9 : decode prog_13_method_64_code 9 = .ok (.getfield 304, 3) := by decide +kernel
theorem f243_304 : xFd (xMo 243) 304 = some (11, 40) := by decide +kernel
theorem d243_12 : decode prog_13_method_64_code 12 = .ok (.iconst 1, 1) := by decide +kernel
theorem d243_13 : decode prog_13_method_64_code 13 = .ok (.iadd, 1) := by decide +kernel
theorem d243_14 : decode prog_13_method_64_code 14 = .ok (.putfield 304, 3) := by decide +kernel
theorem d243_17 : decode prog_13_method_64_code 17 = .ok (.aload_n 0, 1) := by decide +kernel
theorem d243_18 : decode prog_13_method_64_code 18 = .ok (.getfield 74, 3) := by decide +kernel
theorem f243_74 : xFd (xMo 243) 74 = some (11, 37) := by decide +kernel
theorem d243_21 : decode prog_13_method_64_code 21 = .ok (.aload_n 0, 1) := by decide +kernel
theorem d243_22 : decode prog_13_method_64_code 22 = .ok (.getfield 304, 3) := by decide +kernel
theorem d243_25 : decode prog_13_method_64_code 25 = .ok (.iload_n 1, 1) := by decide +kernel
theorem d243_26 : decode prog_13_method_64_code 26 = .ok (.iastore, 1) := by decide +kernel
theorem d243_27 : decode prog_13_method_64_code 27 = .ok (.aload_n 0, 1) := by decide +kernel
theorem d243_28 : decode prog_13_method_64_code 28 = .ok (.getfield 77, 3) := by decide +kernel
theorem f243_77 : xFd (xMo 243) 77 = some (11, 38) := by decide +kernel
theorem d243_31 : decode prog_13_method_64_code 31 = .ok (.aload_n 0, 1) := by decide +kernel
theorem d243_32 : decode prog_13_method_64_code 32 = .ok (.getfield 304, 3) := by decide +kernel
theorem d243_35 : decode prog_13_method_64_code 35 = .ok (.iconst 0, 1) := by decide +kernel
theorem d243_36 : decode prog_13_method_64_code 36 = .ok (.bastore, 1) := by decide +kernel
theorem d243_37 : decode prog_13_method_64_code 37 = .ok (.aload_n 0, 1) := by decide +kernel
theorem d243_38 : decode prog_13_method_64_code 38 = .ok (.getfield 81, 3) := by decide +kernel
theorem f243_81 : xFd (xMo 243) 81 = some (11, 39) := by decide +kernel
theorem d243_41 : decode prog_13_method_64_code 41 = .ok (.aload_n 0, 1) := by decide +kernel
theorem d243_42 : decode prog_13_method_64_code 42 = .ok (.getfield 304, 3) := by decide +kernel
theorem d243_45 : decode prog_13_method_64_code 45 = .ok (.iconst 0, 1) := by decide +kernel
theorem d243_46 : decode prog_13_method_64_code 46 = .ok (.iastore, 1) := by decide +kernel
theorem d243_47 : decode prog_13_method_64_code 47 = .ok (.aload_n 0, 1) := by decide +kernel
theorem d243_48 : decode prog_13_method_64_code 48 = .ok (.iload_n 1, 1) := by decide +kernel
theorem d243_49 : decode prog_13_method_64_code 49 = .ok (.iconst 2, 1) := by decide +kernel
theorem d243_50 : decode prog_13_method_64_code 50 = .ok (.if_icmp .ne 7, 3) := by decide +kernel
theorem d243_53 : decode prog_13_method_64_code 53 = .ok (.iconst 1, 1) := by decide +kernel
theorem d243_54 : decode prog_13_method_64_code 54 = .ok (.goto 4, 3) := by decide +kernel
theorem d243_57 : decode prog_13_method_64_code 57 = .ok (.iconst 0, 1) := by decide +kernel
theorem d243_58 : decode prog_13_method_64_code 58 = .ok (.putfield 301, 3) := by decide +kernel
theorem f243_301 : xFd (xMo 243) 301 = some (11, 41) := by decide +kernel
theorem d243_61 : decode prog_13_method_64_code 61 = .ok (.aload_n 0, 1) := by decide +kernel
theorem d243_62 : decode prog_13_method_64_code 62 = .ok (.iconst 0, 1) := by decide +kernel
theorem d243_63 : decode prog_13_method_64_code 63 = .ok (.putfield 307, 3) := by decide +kernel
theorem f243_307 : xFd (xMo 243) 307 = some (11, 42) := by decide +kernel
theorem d243_66 : decode prog_13_method_64_code 66 = .ok (.aload_n 0, 1) := by decide +kernel
theorem d243_67 : decode prog_13_method_64_code 67 = .ok (.iconst 0, 1) := by decide +kernel
theorem d243_68 : decode prog_13_method_64_code 68 = .ok (.putfield 316, 3) := by decide +kernel
theorem f243_316 : xFd (xMo 243) 316 = some (11, 43) := by decide +kernel
theorem d243_71 : decode prog_13_method_64_code 71 = .ok (.return_, 1) := by decide +kernel
set_option maxRecDepth 100000 in
theorem q244 : xMc 244 = prog_13_method_60_code := rfl
theorem m244 : xMl 244 = 3 ∧ xMret 244 = (some FieldType.int) ∧ xMh 244 = [] := by decide +kernel
theorem e244 {X : xX} {d : Nat} {w : xH} {Q : xO → xH → Prop} (a : Nat) : Cw X d 244 [.ref a] w Q = Wx X d 244 0 [some (.ref a), none, none] [] w Q := by
  unfold Cw
  rw [m244.1]
  rfl
theorem d244_0 : decode prog_13_method_60_code 0 = .ok (.aload_n 0, 1) := by decide +kernel
theorem d244_1 : decode prog_13_method_60_code 1 = .ok (.invokevirtual 288, 3) := by decide +kernel
theorem k244_288_11 : xCa (xMo 244) 288 11 = some (1, 238, 0) := by decide +kernel
theorem n244_288 : xcn (xMo 244) 288 = some 0 := by decide +kernel
theorem d244_4 : decode prog_13_method_60_code 4 = .ok (.bipush 48, 2) := by decide +kernel
theorem d244_6 : decode prog_13_method_60_code 6 = .ok (.isub, 1) := by decide +kernel
theorem d244_7 : decode prog_13_method_60_code 7 = .ok (.istore_n 1, 1) := by decide +kernel
theorem d244_8 : decode prog_13_method_60_code 8 = .ok (.aload_n 0, 1) := by decide +kernel
theorem d244_9 : decode prog_13_method_60_code 9 = .ok (.iload_n 1, 1) := by decide +kernel
theorem d244_10 : decode prog_13_method_60_code 10 = .ok (.iconst 0, 1) := by decide +kernel
theorem d244_11 : decode prog_13_method_60_code 11 = .ok (.bipush 9, 2) := by decide +kernel
theorem d244_13 : decode prog_13_method_60_code 13 = .ok (.invokestatic 91, 3) := by decide +kernel
theorem k244_91_99 : xCa (xMo 244) 91 99 = some (0, 232, 3) := by decide +kernel
theorem d244_16 : decode prog_13_method_60_code 16 = .ok (.invokevirtual 291, 3) := by decide +kernel
theorem k244_291_11 : xCa (xMo 244) 291 11 = some (1, 245, 1) := by decide +kernel
theorem n244_291 : xcn (xMo 244) 291 = some 1 := by decide +kernel
theorem d244_19 : decode prog_13_method_60_code 19 = .ok (.iconst 1, 1) := by decide +kernel
theorem d244_20 : decode prog_13_method_60_code 20 = .ok (.istore_n 2, 1) := by decide +kernel
theorem d244_21 : decode prog_13_method_60_code 21 = .ok (.aload_n 0, 1) := by decide +kernel
theorem d244_22 : decode prog_13_method_60_code 22 = .ok (.getfield 282, 3) := by decide +kernel
theorem f244_282 : xFd (xMo 244) 282 = some (11, 36) := by decide +kernel
theorem d244_25 : decode prog_13_method_60_code 25 = .ok (.ifCond .eq 56, 3) := by decide +kernel
theorem d244_28 : decode prog_13_method_60_code 28 = .ok (.iload_n 1, 1) := by decide +kernel
theorem d244_29 : decode prog_13_method_60_code 29 = .ok (.ifCond .le 52, 3) := by decide +kernel
theorem d244_32 : decode prog_13_method_60_code 32 = .ok (.iload_n 2, 1) := by decide +kernel
theorem d244_33 : decode prog_13_method_60_code 33 = .ok (.bipush 6, 2) := by decide +kernel
theorem d244_35 : decode prog_13_method_60_code 35 = .ok (.if_icmp .ge 46, 3) := by decide +kernel
theorem d244_38 : decode prog_13_method_60_code 38 = .ok (.aload_n 0, 1) := by decide +kernel
theorem d244_39 : decode prog_13_method_60_code 39 = .ok (.invokevirtual 288, 3) := by decide +kernel
theorem d244_42 : decode prog_13_method_60_code 42 = .ok (.bipush 48, 2) := by decide +kernel
theorem d244_44 : decode prog_13_method_60_code 44 = .ok (.bipush 57, 2) := by decide +kernel
theorem d244_46 : decode prog_13_method_60_code 46 = .ok (.invokestatic 91, 3) := by decide +kernel
theorem d244_49 : decode prog_13_method_60_code 49 = .ok (.ifCond .eq 32, 3) := by decide +kernel
theorem d244_52 : decode prog_13_method_60_code 52 = .ok (.bipush 10, 2) := by decide +kernel
theorem d244_54 : decode prog_13_method_60_code 54 = .ok (.iload_n 1, 1) := by decide +kernel
theorem d244_55 : decode prog_13_method_60_code 55 = .ok (.imul, 1) := by decide +kernel
theorem d244_56 : decode prog_13_method_60_code 56 = .ok (.aload_n 0, 1) := by decide +kernel
theorem d244_57 : decode prog_13_method_60_code 57 = .ok (.invokevirtual 288, 3) := by decide +kernel
theorem d244_60 : decode prog_13_method_60_code 60 = .ok (.iadd, 1) := by decide +kernel
theorem d244_61 : decode prog_13_method_60_code 61 = .ok (.bipush 48, 2) := by decide +kernel
theorem d244_63 : decode prog_13_method_60_code 63 = .ok (.isub, 1) := by decide +kernel
theorem d244_64 : decode prog_13_method_60_code 64 = .ok (.istore_n 1, 1) := by decide +kernel
theorem d244_65 : decode prog_13_method_60_code 65 = .ok (.iinc 2 1, 3) := by decide +kernel
theorem d244_68 : decode prog_13_method_60_code 68 = .ok (.aload_n 0, 1) := by decide +kernel
theorem d244_69 : decode prog_13_method_60_code 69 = .ok (.dup, 1) := by decide +kernel
theorem d244_70 : decode prog_13_method_60_code 70 = .ok (.getfield 276, 3) := by decide +kernel
theorem f244_276 : xFd (xMo 244) 276 = some (11, 35) := by decide +kernel
theorem d244_73 : decode prog_13_method_60_code 73 = .ok (.iconst 1, 1) := by decide +kernel
theorem d244_74 : decode prog_13_method_60_code 74 = .ok (.iadd, 1) := by decide +kernel
theorem d244_75 : decode prog_13_method_60_code 75 = .ok (.putfield 276, 3) := by decide +kernel
theorem d244_78 : decode prog_13_method_60_code 78 = .ok (.goto (-57), 3) := by decide +kernel
theorem d244_81 : decode prog_13_method_60_code 81 = .ok (.iload_n 1, 1) := by decide +kernel
theorem d244_82 : decode prog_13_method_60_code 82 = .ok (.ireturn, 1) := by decide +kernel
set_option maxRecDepth 100000 in
theorem q245 : xMc 245 = prog_13_method_58_code := rfl
theorem m245 : xMl 245 = 2 ∧ xMret 245 = none ∧ xMh 245 = [] := by decide +kernel
theorem e245 {X : xX} {d : Nat} {w : xH} {Q : xO → xH → Prop} (a : Nat) (x0 : Int32) : Cw X d 245 [.ref a, .int x0] w Q = Wx X d 245 0 [some (.ref a), some (.int x0)] [] w Q := by
  unfold Cw
  rw [m245.1]
  rfl
theorem d245_0 : decode prog_13_method_58_code 0 = .ok (.aload_n 0, 1) := by decide +kernel
theorem d245_1 : decode prog_13_method_58_code 1 = .ok (.aload_n 0, 1) := by decide +kernel
theorem d245_2 : decode prog_13_method_58_code 2 = .ok (.getfield 282, 3) := by decide +kernel
theorem f245_282 : xFd (xMo 245) 282 = some (11, 36) := by decide +kernel
theorem d245_5 : decode prog_13_method_58_code 5 = .ok (.ifCond .eq 11, 3) := by decide +kernel
theorem d245_8 : decode prog_13_method_58_code 8 = .ok (.iload_n 1, 1) := by decide +kernel
theorem d245_9 : decode prog_13_method_58_code 9 = .ok (.ifCond .eq 7, 3) := by decide +kernel
theorem d245_12 : decode prog_13_method_58_code 12 = .ok (.iconst 1, 1) := by decide +kernel
theorem d245_13 : decode prog_13_method_58_code 13 = .ok (.goto 4, 3) := by decide +kernel
theorem d245_16 : decode prog_13_method_58_code 16 = .ok (.iconst 0, 1) := by decide +kernel
theorem d245_17 : decode prog_13_method_58_code 17 = .ok (.putfield 282, 3) := by decide +kernel
theorem d245_20 : decode prog_13_method_58_code 20 = .ok (.aload_n 0, 1) := by decide +kernel
theorem d245_21 : decode prog_13_method_58_code 21 = .ok (.dup, 1) := by decide +kernel
theorem d245_22 : decode prog_13_method_58_code 22 = .ok (.getfield 276, 3) := by decide +kernel
theorem f245_276 : xFd (xMo 245) 276 = some (11, 35) := by decide +kernel
theorem d245_25 : decode prog_13_method_58_code 25 = .ok (.aload_n 0, 1) := by decide +kernel
theorem d245_26 : decode prog_13_method_58_code 26 = .ok (.getfield 282, 3) := by decide +kernel
theorem d245_29 : decode prog_13_method_58_code 29 = .ok (.ifCond .eq 7, 3) := by decide +kernel
theorem d245_32 : decode prog_13_method_58_code 32 = .ok (.iconst 1, 1) := by decide +kernel
theorem d245_33 : decode prog_13_method_58_code 33 = .ok (.goto 4, 3) := by decide +kernel
theorem d245_36 : decode prog_13_method_58_code 36 = .ok (.iconst 0, 1) := by decide +kernel
theorem d245_37 : decode prog_13_method_58_code 37 = .ok (.iadd, 1) := by decide +kernel
theorem d245_38 : decode prog_13_method_58_code 38 = .ok (.putfield 276, 3) := by decide +kernel
theorem d245_41 : decode prog_13_method_58_code 41 = .ok (.return_, 1) := by decide +kernel
set_option maxRecDepth 100000 in
theorem q246 : xMc 246 = prog_13_method_67_code := rfl
theorem m246 : xMl 246 = 3 ∧ xMret 246 = none ∧ xMh 246 = [] := by decide +kernel
theorem e246 {X : xX} {d : Nat} {w : xH} {Q : xO → xH → Prop} (a : Nat) : Cw X d 246 [.ref a] w Q = Wx X d 246 0 [some (.ref a), none, none] [] w Q := by
  unfold Cw
  rw [m246.1]
  rfl
theorem d246_0 : decode prog_13_method_67_code 0 = .ok (.aload_n 0, 1) := by decide +kernel
theorem d246_1 : decode prog_13_method_67_code 1 = .ok (.invokevirtual 288, 3) := by decide +kernel
theorem k246_288_11 : xCa (xMo 246) 288 11 = some (1, 238, 0) := by decide +kernel
theorem n246_288 : xcn (xMo 246) 288 = some 0 := by decide +kernel
theorem d246_4 : decode prog_13_method_67_code 4 = .ok (.istore_n 1, 1) := by decide +kernel
theorem d246_5 : decode prog_13_method_67_code 5 = .ok (.aload_n 0, 1) := by decide +kernel
theorem d246_6 : decode prog_13_method_67_code 6 = .ok (.getfield 276, 3) := by decide +kernel
theorem f246_276 : xFd (xMo 246) 276 = some (11, 35) := by decide +kernel
theorem d246_9 : decode prog_13_method_67_code 9 = .ok (.iconst 1, 1) := by decide +kernel
theorem d246_10 : decode prog_13_method_67_code 10 = .ok (.iadd, 1) := by decide +kernel
theorem d246_11 : decode prog_13_method_67_code 11 = .ok (.aload_n 0, 1) := by decide +kernel
theorem d246_12 : decode prog_13_method_67_code 12 = .ok (.getfield 279, 3) := by decide +kernel
theorem f246_279 : xFd (xMo 246) 279 = some (11, 10) := by decide +kernel
theorem d246_15 : decode prog_13_method_67_code 15 = .ok (.if_icmp .ge 17, 3) := by decide +kernel
theorem d246_18 : decode prog_13_method_67_code 18 = .ok (.aload_n 0, 1) := by decide +kernel
theorem d246_19 : decode prog_13_method_67_code 19 = .ok (.getfield 28, 3) := by decide +kernel
theorem f246_28 : xFd (xMo 246) 28 = some (11, 9) := by decide +kernel
theorem d246_22 : decode prog_13_method_67_code 22 = .ok (.aload_n 0, 1) := by decide +kernel
theorem d246_23 : decode prog_13_method_67_code 23 = .ok (.getfield 276, 3) := by decide +kernel
theorem d246_26 : decode prog_13_method_67_code 26 = .ok (.iconst 1, 1) := by decide +kernel
theorem d246_27 : decode prog_13_method_67_code 27 = .ok (.iadd, 1) := by decide +kernel
theorem d246_28 : decode prog_13_method_67_code 28 = .ok (.iaload, 1) := by decide +kernel
theorem d246_29 : decode prog_13_method_67_code 29 = .ok (.goto 4, 3) := by decide +kernel
theorem d246_32 : decode prog_13_method_67_code 32 = .ok (.iconst 0, 1) := by decide +kernel
theorem d246_33 : decode prog_13_method_67_code 33 = .ok (.istore_n 2, 1) := by decide +kernel
theorem d246_34 : decode prog_13_method_67_code 34 = .ok (.iload_n 1, 1) := by decide +kernel
theorem d246_35 : decode prog_13_method_67_code 35 = .ok (.bipush 83, 2) := by decide +kernel
theorem d246_37 : decode prog_13_method_67_code 37 = .ok (.if_icmp .ne 31, 3) := by decide +kernel
theorem d246_40 : decode prog_13_method_67_code 40 = .ok (.aload_n 0, 1) := by decide +kernel
theorem d246_41 : decode prog_13_method_67_code 41 = .ok (.dup, 1) := by decide +kernel
theorem d246_42 : decode prog_13_method_67_code 42 = .ok (.getfield 276, 3) := by decide +kernel
theorem d246_45 : decode prog_13_method_67_code 45 = .ok (.iconst 1, 1) := by decide +kernel
theorem d246_46 : decode prog_13_method_67_code 46 = .ok (.iadd, 1) := by decide +kernel
theorem d246_47 : decode prog_13_method_67_code 47 = .ok (.putfield 276, 3) := by decide +kernel
theorem d246_50 : decode prog_13_method_67_code 50 = .ok (.aload_n 0, 1) := by decide +kernel
theorem d246_51 : decode prog_13_method_67_code 51 = .ok (.bipush 85, 2) := by decide +kernel
theorem d246_53 : decode prog_13_method_67_code 53 = .ok (.bipush 77, 2) := by decide +kernel
theorem d246_55 : decode prog_13_method_67_code 55 = .ok (.invokevirtual 322, 3) := by decide +kernel
theorem k246_322_11 : xCa (xMo 246) 322 11 = some (1, 247, 2) := by decide +kernel
theorem n246_322 : xcn (xMo 246) 322 = some 2 := by decide +kernel
theorem d246_58 : decode prog_13_method_67_code 58 = .ok (.aload_n 0, 1) := by decide +kernel
theorem d246_59 : decode prog_13_method_67_code 59 = .ok (.sipush 200, 3) := by decide +kernel
theorem d246_62 : decode prog_13_method_67_code 62 = .ok (.invokevirtual 325, 3) := by decide +kernel
theorem k246_325_11 : xCa (xMo 246) 325 11 = some (1, 248, 1) := by decide +kernel
theorem n246_325 : xcn (xMo 246) 325 = some 1 := by decide +kernel
theorem d246_65 : decode prog_13_method_67_code 65 = .ok (.goto 208, 3) := by decide +kernel
theorem d246_68 : decode prog_13_method_67_code 68 = .ok (.iload_n 1, 1) := by decide +kernel
theorem d246_69 : decode prog_13_method_67_code 69 = .ok (.bipush 77, 2) := by decide +kernel
theorem d246_71 : decode prog_13_method_67_code 71 = .ok (.if_icmp .ne 37, 3) := by decide +kernel
theorem d246_74 : decode prog_13_method_67_code 74 = .ok (.iload_n 2, 1) := by decide +kernel
theorem d246_75 : decode prog_13_method_67_code 75 = .ok (.bipush 73, 2) := by decide +kernel
theorem d246_77 : decode prog_13_method_67_code 77 = .ok (.if_icmp .ne 31, 3) := by decide +kernel
theorem d246_80 : decode prog_13_method_67_code 80 = .ok (.aload_n 0, 1) := by decide +kernel
theorem d246_81 : decode prog_13_method_67_code 81 = .ok (.dup, 1) := by decide +kernel
theorem d246_82 : decode prog_13_method_67_code 82 = .ok (.getfield 276, 3) := by decide +kernel
theorem d246_85 : decode prog_13_method_67_code 85 = .ok (.iconst 1, 1) := by decide +kernel
theorem d246_86 : decode prog_13_method_67_code 86 = .ok (.iadd, 1) := by decide +kernel
theorem d246_87 : decode prog_13_method_67_code 87 = .ok (.putfield 276, 3) := by decide +kernel
theorem d246_90 : decode prog_13_method_67_code 90 = .ok (.aload_n 0, 1) := by decide +kernel
theorem d246_91 : decode prog_13_method_67_code 91 = .ok (.bipush 73, 2) := by decide +kernel
theorem d246_93 : decode prog_13_method_67_code 93 = .ok (.bipush 78, 2) := by decide +kernel
theorem d246_95 : decode prog_13_method_67_code 95 = .ok (.invokevirtual 322, 3) := by decide +kernel
theorem d246_98 : decode prog_13_method_67_code 98 = .ok (.aload_n 0, 1) := by decide +kernel
theorem d246_99 : decode prog_13_method_67_code 99 = .ok (.sipush 201, 3) := by decide +kernel
theorem d246_102 : decode prog_13_method_67_code 102 = .ok (.invokevirtual 325, 3) := by decide +kernel
theorem d246_105 : decode prog_13_method_67_code 105 = .ok (.goto 168, 3) := by decide +kernel
theorem d246_108 : decode prog_13_method_67_code 108 = .ok (.iload_n 1, 1) := by decide +kernel
theorem d246_109 : decode prog_13_method_67_code 109 = .ok (.bipush 77, 2) := by decide +kernel
theorem d246_111 : decode prog_13_method_67_code 111 = .ok (.if_icmp .ne 31, 3) := by decide +kernel
theorem d246_114 : decode prog_13_method_67_code 114 = .ok (.aload_n 0, 1) := by decide +kernel
theorem d246_115 : decode prog_13_method_67_code 115 = .ok (.dup, 1) := by decide +kernel
theorem d246_116 : decode prog_13_method_67_code 116 = .ok (.getfield 276, 3) := by decide +kernel
theorem d246_119 : decode prog_13_method_67_code 119 = .ok (.iconst 1, 1) := by decide +kernel
theorem d246_120 : decode prog_13_method_67_code 120 = .ok (.iadd, 1) := by decide +kernel
theorem d246_121 : decode prog_13_method_67_code 121 = .ok (.putfield 276, 3) := by decide +kernel
theorem d246_124 : decode prog_13_method_67_code 124 = .ok (.aload_n 0, 1) := by decide +kernel
theorem d246_125 : decode prog_13_method_67_code 125 = .ok (.bipush 65, 2) := by decide +kernel
theorem d246_127 : decode prog_13_method_67_code 127 = .ok (.bipush 88, 2) := by decide +kernel
theorem d246_129 : decode prog_13_method_67_code 129 = .ok (.invokevirtual 322, 3) := by decide +kernel
theorem d246_132 : decode prog_13_method_67_code 132 = .ok (.aload_n 0, 1) := by decide +kernel
theorem d246_133 : decode prog_13_method_67_code 133 = .ok (.sipush 202, 3) := by decide +kernel
theorem d246_136 : decode prog_13_method_67_code 136 = .ok (.invokevirtual 325, 3) := by decide +kernel
theorem d246_139 : decode prog_13_method_67_code 139 = .ok (.goto 134, 3) := by decide +kernel
theorem d246_142 : decode prog_13_method_67_code 142 = .ok (.iload_n 1, 1) := by decide +kernel
theorem d246_143 : decode prog_13_method_67_code 143 = .ok (.bipush 67, 2) := by decide +kernel
theorem d246_145 : decode prog_13_method_67_code 145 = .ok (.if_icmp .ne 52, 3) := by decide +kernel
theorem d246_148 : decode prog_13_method_67_code 148 = .ok (.iload_n 2, 1) := by decide +kernel
theorem d246_149 : decode prog_13_method_67_code 149 = .ok (.bipush 79, 2) := by decide +kernel
theorem d246_151 : decode prog_13_method_67_code 151 = .ok (.if_icmp .ne 46, 3) := by decide +kernel
theorem d246_154 : decode prog_13_method_67_code 154 = .ok (.aload_n 0, 1) := by decide +kernel
theorem d246_155 : decode prog_13_method_67_code 155 = .ok (.dup, 1) := by decide +kernel
theorem d246_156 : decode prog_13_method_67_code 156 = .ok (.getfield 276, 3) := by decide +kernel
theorem d246_159 : decode prog_13_method_67_code 159 = .ok (.iconst 1, 1) := by decide +kernel
theorem d246_160 : decode prog_13_method_67_code 160 = .ok (.iadd, 1) := by decide +kernel
theorem d246_161 : decode prog_13_method_67_code 161 = .ok (.putfield 276, 3) := by decide +kernel
theorem d246_164 : decode prog_13_method_67_code 164 = .ok (.aload_n 0, 1) := by decide +kernel
theorem d246_165 : decode prog_13_method_67_code 165 = .ok (.bipush 79, 2) := by decide +kernel
theorem d246_167 : decode prog_13_method_67_code 167 = .ok (.bipush 85, 2) := by decide +kernel
theorem d246_169 : decode prog_13_method_67_code 169 = .ok (.invokevirtual 322, 3) := by decide +kernel
theorem d246_172 : decode prog_13_method_67_code 172 = .ok (.aload_n 0, 1) := by decide +kernel
theorem d246_173 : decode prog_13_method_67_code 173 = .ok (.getfield 282, 3) := by decide +kernel
theorem f246_282 : xFd (xMo 246) 282 = some (11, 36) := by decide +kernel
theorem d246_176 : decode prog_13_method_67_code 176 = .ok (.ifCond .eq 11, 3) := by decide +kernel
theorem d246_179 : decode prog_13_method_67_code 179 = .ok (.aload_n 0, 1) := by decide +kernel
theorem d246_180 : decode prog_13_method_67_code 180 = .ok (.bipush 78, 2) := by decide +kernel
theorem d246_182 : decode prog_13_method_67_code 182 = .ok (.bipush 84, 2) := by decide +kernel
theorem d246_184 : decode prog_13_method_67_code 184 = .ok (.invokevirtual 322, 3) := by decide +kernel
theorem d246_187 : decode prog_13_method_67_code 187 = .ok (.aload_n 0, 1) := by decide +kernel
theorem d246_188 : decode prog_13_method_67_code 188 = .ok (.sipush 203, 3) := by decide +kernel
theorem d246_191 : decode prog_13_method_67_code 191 = .ok (.invokevirtual 325, 3) := by decide +kernel
theorem d246_194 : decode prog_13_method_67_code 194 = .ok (.goto 79, 3) := by decide +kernel
theorem d246_197 : decode prog_13_method_67_code 197 = .ok (.iload_n 1, 1) := by decide +kernel
theorem d246_198 : decode prog_13_method_67_code 198 = .ok (.bipush 65, 2) := by decide +kernel
theorem d246_200 : decode prog_13_method_67_code 200 = .ok (.if_icmp .ne 37, 3) := by decide +kernel
theorem d246_203 : decode prog_13_method_67_code 203 = .ok (.iload_n 2, 1) := by decide +kernel
theorem d246_204 : decode prog_13_method_67_code 204 = .ok (.bipush 66, 2) := by decide +kernel
theorem d246_206 : decode prog_13_method_67_code 206 = .ok (.if_icmp .ne 31, 3) := by decide +kernel
theorem d246_209 : decode prog_13_method_67_code 209 = .ok (.aload_n 0, 1) := by decide +kernel
theorem d246_210 : decode prog_13_method_67_code 210 = .ok (.dup, 1) := by decide +kernel
theorem d246_211 : decode prog_13_method_67_code 211 = .ok (.getfield 276, 3) := by decide +kernel
theorem d246_214 : decode prog_13_method_67_code 214 = .ok (.iconst 1, 1) := by decide +kernel
theorem d246_215 : decode prog_13_method_67_code 215 = .ok (.iadd, 1) := by decide +kernel
theorem d246_216 : decode prog_13_method_67_code 216 = .ok (.putfield 276, 3) := by decide +kernel
theorem d246_219 : decode prog_13_method_67_code 219 = .ok (.aload_n 0, 1) := by decide +kernel
theorem d246_220 : decode prog_13_method_67_code 220 = .ok (.bipush 66, 2) := by decide +kernel
theorem d246_222 : decode prog_13_method_67_code 222 = .ok (.bipush 83, 2) := by decide +kernel
theorem d246_224 : decode prog_13_method_67_code 224 = .ok (.invokevirtual 322, 3) := by decide +kernel
theorem d246_227 : decode prog_13_method_67_code 227 = .ok (.aload_n 0, 1) := by decide +kernel
theorem d246_228 : decode prog_13_method_67_code 228 = .ok (.sipush 204, 3) := by decide +kernel
theorem d246_231 : decode prog_13_method_67_code 231 = .ok (.invokevirtual 325, 3) := by decide +kernel
theorem d246_234 : decode prog_13_method_67_code 234 = .ok (.goto 39, 3) := by decide +kernel
theorem d246_237 : decode prog_13_method_67_code 237 = .ok (.iload_n 1, 1) := by decide +kernel
theorem d246_238 : decode prog_13_method_67_code 238 = .ok (.bipush 73, 2) := by decide +kernel
theorem d246_240 : decode prog_13_method_67_code 240 = .ok (.if_icmp .ne 29, 3) := by decide +kernel
theorem d246_243 : decode prog_13_method_67_code 243 = .ok (.iload_n 2, 1) := by decide +kernel
theorem d246_244 : decode prog_13_method_67_code 244 = .ok (.bipush 70, 2) := by decide +kernel
theorem d246_246 : decode prog_13_method_67_code 246 = .ok (.if_icmp .ne 23, 3) := by decide +kernel
theorem d246_249 : decode prog_13_method_67_code 249 = .ok (.aload_n 0, 1) := by decide +kernel
theorem d246_250 : decode prog_13_method_67_code 250 = .ok (.dup, 1) := by decide +kernel
theorem d246_251 : decode prog_13_method_67_code 251 = .ok (.getfield 276, 3) := by decide +kernel
theorem d246_254 : decode prog_13_method_67_code 254 = .ok (.iconst 2, 1) := by decide +kernel
theorem d246_255 : decode prog_13_method_67_code 255 = .ok (.iadd, 1) := by decide +kernel
theorem d246_256 : decode prog_13_method_67_code 256 = .ok (.putfield 276, 3) := by decide +kernel
theorem d246_259 : decode prog_13_method_67_code 259 = .ok (.aload_n 0, 1) := by decide +kernel
theorem d246_260 : decode prog_13_method_67_code 260 = .ok (.sipush 205, 3) := by decide +kernel
theorem d246_263 : decode prog_13_method_67_code 263 = .ok (.invokevirtual 325, 3) := by decide +kernel
theorem d246_266 : decode prog_13_method_67_code 266 = .ok (.goto 7, 3) := by decide +kernel
theorem d246_269 : decode prog_13_method_67_code 269 = .ok (.aload_n 0, 1) := by decide +kernel
theorem d246_270 : decode prog_13_method_67_code 270 = .ok (.invokevirtual 328, 3) := by decide +kernel
theorem k246_328_11 : xCa (xMo 246) 328 11 = some (1, 249, 0) := by decide +kernel
theorem n246_328 : xcn (xMo 246) 328 = some 0 := by decide +kernel
theorem d246_273 : decode prog_13_method_67_code 273 = .ok (.return_, 1) := by decide +kernel
set_option maxRecDepth 100000 in
theorem q247 : xMc 247 = prog_13_method_66_code := rfl
theorem m247 : xMl 247 = 3 ∧ xMret 247 = none ∧ xMh 247 = [] := by decide +kernel
theorem e247 {X : xX} {d : Nat} {w : xH} {Q : xO → xH → Prop} (a : Nat) (x0 : Int32) (x1 : Int32) : Cw X d 247 [.ref a, .int x0, .int x1] w Q = Wx X d 247 0 [some (.ref a), some (.int x0), some (.int x1)] [] w Q := by
  unfold Cw
  rw [m247.1]
  rfl
theorem d247_0 : decode prog_13_method_66_code 0 = .ok (.aload_n 0, 1) := by decide +kernel
theorem d247_1 : decode prog_13_method_66_code 1 = .ok (.aload_n 0, 1) := by decide +kernel
theorem d247_2 : decode prog_13_method_66_code 2 = .ok (.invokevirtual 288, 3) := by decide +kernel
theorem k247_288_11 : xCa (xMo 247) 288 11 = some (1, 238, 0) := by decide +kernel
theorem n247_288 : xcn (xMo 247) 288 = some 0 := by decide +kernel
theorem d247_5 : decode prog_13_method_66_code 5 = .ok (.iload_n 1, 1) := by decide +kernel
theorem d247_6 : decode prog_13_method_66_code 6 = .ok (.if_icmp .ne 7, 3) := by decide +kernel
theorem d247_9 : decode prog_13_method_66_code 9 = .ok (.iconst 1, 1) := by decide +kernel
theorem d247_10 : decode prog_13_method_66_code 10 = .ok (.goto 4, 3) := by decide +kernel
theorem d247_13 : decode prog_13_method_66_code 13 = .ok (.iconst 0, 1) := by decide +kernel
theorem d247_14 : decode prog_13_method_66_code 14 = .ok (.invokevirtual 291, 3) := by decide +kernel
theorem k247_291_11 : xCa (xMo 247) 291 11 = some (1, 245, 1) := by decide +kernel
theorem n247_291 : xcn (xMo 247) 291 = some 1 := by decide +kernel
theorem d247_17 : decode prog_13_method_66_code 17 = .ok (.aload_n 0, 1) := by decide +kernel
theorem d247_18 : decode prog_13_method_66_code 18 = .ok (.aload_n 0, 1) := by decide +kernel
theorem d247_19 : decode prog_13_method_66_code 19 = .ok (.invokevirtual 288, 3) := by decide +kernel
theorem d247_22 : decode prog_13_method_66_code 22 = .ok (.iload_n 2, 1) := by decide +kernel
theorem d247_23 : decode prog_13_method_66_code 23 = .ok (.if_icmp .ne 7, 3) := by decide +kernel
theorem d247_26 : decode prog_13_method_66_code 26 = .ok (.iconst 1, 1) := by decide +kernel
theorem d247_27 : decode prog_13_method_66_code 27 = .ok (.goto 4, 3) := by decide +kernel
theorem d247_30 : decode prog_13_method_66_code 30 = .ok (.iconst 0, 1) := by decide +kernel
theorem d247_31 : decode prog_13_method_66_code 31 = .ok (.invokevirtual 291, 3) := by decide +kernel
theorem d247_34 : decode prog_13_method_66_code 34 = .ok (.return_, 1) := by decide +kernel
set_option maxRecDepth 100000 in
theorem q248 : xMc 248 = prog_13_method_65_code := rfl
theorem m248 : xMl 248 = 2 ∧ xMret 248 = none ∧ xMh 248 = [] := by decide +kernel
theorem e248 {X : xX} {d : Nat} {w : xH} {Q : xO → xH → Prop} (a : Nat) (x0 : Int32) : Cw X d 248 [.ref a, .int x0] w Q = Wx X d 248 0 [some (.ref a), some (.int x0)] [] w Q := by
  unfold Cw
  rw [m248.1]
  rfl
theorem d248_0 : decode prog_13_method_65_code 0 = .ok (.aload_n 0, 1) := by decide +kernel
theorem d248_1 : decode prog_13_method_65_code 1 = .ok (.aload_n 0, 1) := by decide +kernel
theorem d248_2 : decode prog_13_method_65_code 2 = .ok (.invokevirtual 288, 3) := by decide +kernel
theorem k248_288_11 : xCa (xMo 248) 288 11 = some (1, 238, 0) := by decide +kernel
theorem n248_288 : xcn (xMo 248) 288 = some 0 := by decide +kernel
theorem d248_5 : decode prog_13_method_65_code 5 = .ok (.bipush 40, 2) := by decide +kernel
theorem d248_7 : decode prog_13_method_65_code 7 = .ok (.if_icmp .ne 7, 3) := by decide +kernel
theorem d248_10 : decode prog_13_method_65_code 10 = .ok (.iconst 1, 1) := by decide +kernel
theorem d248_11 : decode prog_13_method_65_code 11 = .ok (.goto 4, 3) := by decide +kernel
theorem d248_14 : decode prog_13_method_65_code 14 = .ok (.iconst 0, 1) := by decide +kernel
theorem d248_15 : decode prog_13_method_65_code 15 = .ok (.invokevirtual 291, 3) := by decide +kernel
theorem k248_291_11 : xCa (xMo 248) 291 11 = some (1, 245, 1) := by decide +kernel
theorem n248_291 : xcn (xMo 248) 291 = some 1 := by decide +kernel
theorem d248_18 : decode prog_13_method_65_code 18 = .ok (.aload_n 0, 1) := by decide +kernel
theorem d248_19 : decode prog_13_method_65_code 19 = .ok (.iload_n 1, 1) := by decide +kernel
theorem d248_20 : decode prog_13_method_65_code 20 = .ok (.invokevirtual 298, 3) := by decide +kernel
theorem k248_298_11 : xCa (xMo 248) 298 11 = some (1, 242, 1) := by decide +kernel
theorem n248_298 : xcn (xMo 248) 298 = some 1 := by decide +kernel
theorem d248_23 : decode prog_13_method_65_code 23 = .ok (.aload_n 0, 1) := by decide +kernel
theorem d248_24 : decode prog_13_method_65_code 24 = .ok (.bipush 40, 2) := by decide +kernel
theorem d248_26 : decode prog_13_method_65_code 26 = .ok (.invokevirtual 298, 3) := by decide +kernel
theorem d248_29 : decode prog_13_method_65_code 29 = .ok (.aload_n 0, 1) := by decide +kernel
theorem d248_30 : decode prog_13_method_65_code 30 = .ok (.iload_n 1, 1) := by decide +kernel
theorem d248_31 : decode prog_13_method_65_code 31 = .ok (.sipush 204, 3) := by decide +kernel
theorem d248_34 : decode prog_13_method_65_code 34 = .ok (.if_icmp .ge 7, 3) := by decide +kernel
theorem d248_37 : decode prog_13_method_65_code 37 = .ok (.iconst 2, 1) := by decide +kernel
theorem d248_38 : decode prog_13_method_65_code 38 = .ok (.goto 15, 3) := by decide +kernel
theorem d248_41 : decode prog_13_method_65_code 41 = .ok (.iload_n 1, 1) := by decide +kernel
theorem d248_42 : decode prog_13_method_65_code 42 = .ok (.sipush 204, 3) := by decide +kernel
theorem d248_45 : decode prog_13_method_65_code 45 = .ok (.if_icmp .ne 7, 3) := by decide +kernel
theorem d248_48 : decode prog_13_method_65_code 48 = .ok (.iconst 3, 1) := by decide +kernel
theorem d248_49 : decode prog_13_method_65_code 49 = .ok (.goto 4, 3) := by decide +kernel
theorem d248_52 : decode prog_13_method_65_code 52 = .ok (.iconst 4, 1) := by decide +kernel
theorem d248_53 : decode prog_13_method_65_code 53 = .ok (.invokevirtual 319, 3) := by decide +kernel
theorem k248_319_11 : xCa (xMo 248) 319 11 = some (1, 243, 1) := by decide +kernel
theorem n248_319 : xcn (xMo 248) 319 = some 1 := by decide +kernel
theorem d248_56 : decode prog_13_method_65_code 56 = .ok (.return_, 1) := by decide +kernel
set_option maxRecDepth 100000 in
theorem q249 : xMc 249 = prog_13_method_63_code := rfl
theorem m249 : xMl 249 = 3 ∧ xMret 249 = none ∧ xMh 249 = [] := by decide +kernel
theorem e249 {X : xX} {d : Nat} {w : xH} {Q : xO → xH → Prop} (a : Nat) : Cw X d 249 [.ref a] w Q = Wx X d 249 0 [some (.ref a), none, none] [] w Q := by
  unfold Cw
  rw [m249.1]
  rfl
theorem d249_0 : decode prog_13_method_63_code 0 = .ok (.aload_n 0, 1) := by decide +kernel
theorem d249_1 : decode prog_13_method_63_code 1 = .ok (.invokevirtual 288, 3) := by decide +kernel
theorem k249_288_11 : xCa (xMo 249) 288 11 = some (1, 238, 0) := by decide +kernel
theorem n249_288 : xcn (xMo 249) 288 = some 0 := by decide +kernel
theorem d249_4 : decode prog_13_method_63_code 4 = .ok (.bipush 36, 2) := by decide +kernel
theorem d249_6 : decode prog_13_method_63_code 6 = .ok (.if_icmp .ne 7, 3) := by decide +kernel
theorem d249_9 : decode prog_13_method_63_code 9 = .ok (.iconst 1, 1) := by decide +kernel
theorem d249_10 : decode prog_13_method_63_code 10 = .ok (.goto 4, 3) := by decide +kernel
theorem d249_13 : decode prog_13_method_63_code 13 = .ok (.iconst 0, 1) := by decide +kernel
theorem d249_14 : decode prog_13_method_63_code 14 = .ok (.istore_n 1, 1) := by decide +kernel
theorem d249_15 : decode prog_13_method_63_code 15 = .ok (.aload_n 0, 1) := by decide +kernel
theorem d249_16 : decode prog_13_method_63_code 16 = .ok (.dup, 1) := by decide +kernel
theorem d249_17 : decode prog_13_method_63_code 17 = .ok (.getfield 276, 3) := by decide +kernel
theorem f249_276 : xFd (xMo 249) 276 = some (11, 35) := by decide +kernel
theorem d249_20 : decode prog_13_method_63_code 20 = .ok (.iload_n 1, 1) := by decide +kernel
theorem d249_21 : decode prog_13_method_63_code 21 = .ok (.ifCond .eq 7, 3) := by decide +kernel
theorem d249_24 : decode prog_13_method_63_code 24 = .ok (.iconst 1, 1) := by decide +kernel
theorem d249_25 : decode prog_13_method_63_code 25 = .ok (.goto 4, 3) := by decide +kernel
theorem d249_28 : decode prog_13_method_63_code 28 = .ok (.iconst 0, 1) := by decide +kernel
theorem d249_29 : decode prog_13_method_63_code 29 = .ok (.iadd, 1) := by decide +kernel
theorem d249_30 : decode prog_13_method_63_code 30 = .ok (.putfield 276, 3) := by decide +kernel
theorem d249_33 : decode prog_13_method_63_code 33 = .ok (.aload_n 0, 1) := by decide +kernel
theorem d249_34 : decode prog_13_method_63_code 34 = .ok (.invokevirtual 288, 3) := by decide +kernel
theorem d249_37 : decode prog_13_method_63_code 37 = .ok (.bipush 65, 2) := by decide +kernel
theorem d249_39 : decode prog_13_method_63_code 39 = .ok (.isub, 1) := by decide +kernel
theorem d249_40 : decode prog_13_method_63_code 40 = .ok (.istore_n 2, 1) := by decide +kernel
theorem d249_41 : decode prog_13_method_63_code 41 = .ok (.aload_n 0, 1) := by decide +kernel
theorem d249_42 : decode prog_13_method_63_code 42 = .ok (.iload_n 2, 1) := by decide +kernel
theorem d249_43 : decode prog_13_method_63_code 43 = .ok (.iconst 0, 1) := by decide +kernel
theorem d249_44 : decode prog_13_method_63_code 44 = .ok (.bipush 9, 2) := by decide +kernel
theorem d249_46 : decode prog_13_method_63_code 46 = .ok (.invokestatic 91, 3) := by decide +kernel
theorem k249_91_99 : xCa (xMo 249) 91 99 = some (0, 232, 3) := by decide +kernel
theorem d249_49 : decode prog_13_method_63_code 49 = .ok (.invokevirtual 291, 3) := by decide +kernel
theorem k249_291_11 : xCa (xMo 249) 291 11 = some (1, 245, 1) := by decide +kernel
theorem n249_291 : xcn (xMo 249) 291 = some 1 := by decide +kernel
theorem d249_52 : decode prog_13_method_63_code 52 = .ok (.aload_n 0, 1) := by decide +kernel
theorem d249_53 : decode prog_13_method_63_code 53 = .ok (.getfield 282, 3) := by decide +kernel
theorem f249_282 : xFd (xMo 249) 282 = some (11, 36) := by decide +kernel
theorem d249_56 : decode prog_13_method_63_code 56 = .ok (.ifCond .eq 9, 3) := by decide +kernel
theorem d249_59 : decode prog_13_method_63_code 59 = .ok (.aload_n 0, 1) := by decide +kernel
theorem d249_60 : decode prog_13_method_63_code 60 = .ok (.iload_n 2, 1) := by decide +kernel
theorem d249_61 : decode prog_13_method_63_code 61 = .ok (.iload_n 1, 1) := by decide +kernel
theorem d249_62 : decode prog_13_method_63_code 62 = .ok (.invokevirtual 313, 3) := by decide +kernel
theorem k249_313_11 : xCa (xMo 249) 313 11 = some (1, 250, 2) := by decide +kernel
theorem n249_313 : xcn (xMo 249) 313 = some 2 := by decide +kernel
theorem d249_65 : decode prog_13_method_63_code 65 = .ok (.return_, 1) := by decide +kernel
set_option maxRecDepth 100000 in
theorem q250 : xMc 250 = prog_13_method_62_code := rfl
theorem m250 : xMl 250 = 5 ∧ xMret 250 = none ∧ xMh 250 = [] := by decide +kernel
theorem e250 {X : xX} {d : Nat} {w : xH} {Q : xO → xH → Prop} (a : Nat) (x0 : Int32) (x1 : Int32) : Cw X d 250 [.ref a, .int x0, .int x1] w Q = Wx X d 250 0 [some (.ref a), some (.int x0), some (.int x1), none, none] [] w Q := by
  unfold Cw
  rw [m250.1]
  rfl
theorem d250_0 : decode prog_13_method_62_code 0 = .ok (.aload_n 0, 1) := by decide +kernel
theorem d250_1 : decode prog_13_method_62_code 1 = .ok (.invokevirtual 288, 3) := by decide +kernel
theorem k250_288_11 : xCa (xMo 250) 288 11 = some (1, 238, 0) := by decide +kernel
theorem n250_288 : xcn (xMo 250) 288 = some 0 := by decide +kernel
theorem d250_4 : decode prog_13_method_62_code 4 = .ok (.bipush 36, 2) := by decide +kernel
theorem d250_6 : decode prog_13_method_62_code 6 = .ok (.if_icmp .ne 7, 3) := by decide +kernel
theorem d250_9 : decode prog_13_method_62_code 9 = .ok (.iconst 1, 1) := by decide +kernel
theorem d250_10 : decode prog_13_method_62_code 10 = .ok (.goto 4, 3) := by decide +kernel
theorem d250_13 : decode prog_13_method_62_code 13 = .ok (.iconst 0, 1) := by decide +kernel
theorem d250_14 : decode prog_13_method_62_code 14 = .ok (.istore_n 3, 1) := by decide +kernel
theorem d250_15 : decode prog_13_method_62_code 15 = .ok (.aload_n 0, 1) := by decide +kernel
theorem d250_16 : decode prog_13_method_62_code 16 = .ok (.dup, 1) := by decide +kernel
theorem d250_17 : decode prog_13_method_62_code 17 = .ok (.getfield 276, 3) := by decide +kernel
theorem f250_276 : xFd (xMo 250) 276 = some (11, 35) := by decide +kernel
theorem d250_20 : decode prog_13_method_62_code 20 = .ok (.iload_n 3, 1) := by decide +kernel
theorem d250_21 : decode prog_13_method_62_code 21 = .ok (.ifCond .eq 7, 3) := by decide +kernel
theorem d250_24 : decode prog_13_method_62_code 24 = .ok (.iconst 1, 1) := by decide +kernel
theorem d250_25 : decode prog_13_method_62_code 25 = .ok (.goto 4, 3) := by decide +kernel
theorem d250_28 : decode prog_13_method_62_code 28 = .ok (.iconst 0, 1) := by decide +kernel
theorem d250_29 : decode prog_13_method_62_code 29 = .ok (.iadd, 1) := by decide +kernel
theorem d250_30 : decode prog_13_method_62_code 30 = .ok (.putfield 276, 3) := by decide +kernel
theorem d250_33 : decode prog_13_method_62_code 33 = .ok (.aload_n 0, 1) := by decide +kernel
theorem d250_34 : decode prog_13_method_62_code 34 = .ok (.invokevirtual 295, 3) := by decide +kernel
theorem k250_295_11 : xCa (xMo 250) 295 11 = some (1, 251, 0) := by decide +kernel
theorem n250_295 : xcn (xMo 250) 295 = some 0 := by decide +kernel
theorem d250_37 : decode prog_13_method_62_code 37 = .ok (.istore 4, 2) := by decide +kernel
theorem d250_39 : decode prog_13_method_62_code 39 = .ok (.aload_n 0, 1) := by decide +kernel
theorem d250_40 : decode prog_13_method_62_code 40 = .ok (.ldc 109, 2) := by decide +kernel
theorem d250_42 : decode prog_13_method_62_code 42 = .ok (.iload_n 2, 1) := by decide +kernel
theorem d250_43 : decode prog_13_method_62_code 43 = .ok (.ifCond .eq 9, 3) := by decide +kernel
theorem d250_46 : decode prog_13_method_62_code 46 = .ok (.sipush 1000, 3) := by decide +kernel
theorem d250_49 : decode prog_13_method_62_code 49 = .ok (.goto 4, 3) := by decide +kernel
theorem d250_52 : decode prog_13_method_62_code 52 = .ok (.iconst 0, 1) := by decide +kernel
theorem d250_53 : decode prog_13_method_62_code 53 = .ok (.iadd, 1) := by decide +kernel
theorem d250_54 : decode prog_13_method_62_code 54 = .ok (.iload_n 3, 1) := by decide +kernel
theorem d250_55 : decode prog_13_method_62_code 55 = .ok (.ifCond .eq 9, 3) := by decide +kernel
theorem d250_58 : decode prog_13_method_62_code 58 = .ok (.sipush 2000, 3) := by decide +kernel
theorem d250_61 : decode prog_13_method_62_code 61 = .ok (.goto 4, 3) := by decide +kernel
theorem d250_64 : decode prog_13_method_62_code 64 = .ok (.iconst 0, 1) := by decide +kernel
theorem d250_65 : decode prog_13_method_62_code 65 = .ok (.iadd, 1) := by decide +kernel
theorem d250_66 : decode prog_13_method_62_code 66 = .ok (.bipush 10, 2) := by decide +kernel
theorem d250_68 : decode prog_13_method_62_code 68 = .ok (.iload 4, 2) := by decide +kernel
theorem d250_70 : decode prog_13_method_62_code 70 = .ok (.imul, 1) := by decide +kernel
theorem d250_71 : decode prog_13_method_62_code 71 = .ok (.iadd, 1) := by decide +kernel
theorem d250_72 : decode prog_13_method_62_code 72 = .ok (.iload_n 1, 1) := by decide +kernel
theorem d250_73 : decode prog_13_method_62_code 73 = .ok (.iadd, 1) := by decide +kernel
theorem d250_74 : decode prog_13_method_62_code 74 = .ok (.invokevirtual 298, 3) := by decide +kernel
theorem k250_298_11 : xCa (xMo 250) 298 11 = some (1, 242, 1) := by decide +kernel
theorem n250_298 : xcn (xMo 250) 298 = some 1 := by decide +kernel
theorem d250_77 : decode prog_13_method_62_code 77 = .ok (.aload_n 0, 1) := by decide +kernel
theorem d250_78 : decode prog_13_method_62_code 78 = .ok (.aload_n 0, 1) := by decide +kernel
theorem d250_79 : decode prog_13_method_62_code 79 = .ok (.getfield 282, 3) := by decide +kernel
theorem f250_282 : xFd (xMo 250) 282 = some (11, 36) := by decide +kernel
theorem d250_82 : decode prog_13_method_62_code 82 = .ok (.ifCond .eq 27, 3) := by decide +kernel
theorem d250_85 : decode prog_13_method_62_code 85 = .ok (.aload_n 0, 1) := by decide +kernel
theorem d250_86 : decode prog_13_method_62_code 86 = .ok (.getfield 301, 3) := by decide +kernel
theorem f250_301 : xFd (xMo 250) 301 = some (11, 41) := by decide +kernel
theorem d250_89 : decode prog_13_method_62_code 89 = .ok (.ifCond .eq 20, 3) := by decide +kernel
theorem d250_92 : decode prog_13_method_62_code 92 = .ok (.aload_n 0, 1) := by decide +kernel
theorem d250_93 : decode prog_13_method_62_code 93 = .ok (.getfield 74, 3) := by decide +kernel
theorem f250_74 : xFd (xMo 250) 74 = some (11, 37) := by decide +kernel
theorem d250_96 : decode prog_13_method_62_code 96 = .ok (.aload_n 0, 1) := by decide +kernel
theorem d250_97 : decode prog_13_method_62_code 97 = .ok (.getfield 304, 3) := by decide +kernel
theorem f250_304 : xFd (xMo 250) 304 = some (11, 40) := by decide +kernel
theorem d250_100 : decode prog_13_method_62_code 100 = .ok (.iaload, 1) := by decide +kernel
theorem d250_101 : decode prog_13_method_62_code 101 = .ok (.iconst 2, 1) := by decide +kernel
theorem d250_102 : decode prog_13_method_62_code 102 = .ok (.if_icmp .ne 7, 3) := by decide +kernel
theorem d250_105 : decode prog_13_method_62_code 105 = .ok (.iconst 1, 1) := by decide +kernel
theorem d250_106 : decode prog_13_method_62_code 106 = .ok (.goto 4, 3) := by decide +kernel
theorem d250_109 : decode prog_13_method_62_code 109 = .ok (.iconst 0, 1) := by decide +kernel
theorem d250_110 : decode prog_13_method_62_code 110 = .ok (.putfield 307, 3) := by decide +kernel
theorem f250_307 : xFd (xMo 250) 307 = some (11, 42) := by decide +kernel
theorem d250_113 : decode prog_13_method_62_code 113 = .ok (.aload_n 0, 1) := by decide +kernel
theorem d250_114 : decode prog_13_method_62_code 114 = .ok (.iconst 0, 1) := by decide +kernel
theorem d250_115 : decode prog_13_method_62_code 115 = .ok (.putfield 301, 3) := by decide +kernel
theorem d250_118 : decode prog_13_method_62_code 118 = .ok (.aload_n 0, 1) := by decide +kernel
theorem d250_119 : decode prog_13_method_62_code 119 = .ok (.iconst 0, 1) := by decide +kernel
theorem d250_120 : decode prog_13_method_62_code 120 = .ok (.putfield 310, 3) := by decide +kernel
theorem f250_310 : xFd (xMo 250) 310 = some (11, 44) := by decide +kernel
theorem d250_123 : decode prog_13_method_62_code 123 = .ok (.return_, 1) := by decide +kernel
set_option maxRecDepth 100000 in
theorem q251 : xMc 251 = prog_13_method_61_code := rfl
theorem m251 : xMl 251 = 4 ∧ xMret 251 = (some FieldType.int) ∧ xMh 251 = [] := by decide +kernel
theorem e251 {X : xX} {d : Nat} {w : xH} {Q : xO → xH → Prop} (a : Nat) : Cw X d 251 [.ref a] w Q = Wx X d 251 0 [some (.ref a), none, none, none] [] w Q := by
  unfold Cw
  rw [m251.1]
  rfl
theorem d251_0 : decode prog_13_method_61_code 0 = .ok (.aload_n 0, 1) := by decide +kernel
theorem d251_1 : decode prog_13_method_61_code 1 = .ok (.invokevirtual 288, 3) := by decide +kernel
theorem k251_288_11 : xCa (xMo 251) 288 11 = some (1, 238, 0) := by decide +kernel
theorem n251_288 : xcn (xMo 251) 288 = some 0 := by decide +kernel
theorem d251_4 : decode prog_13_method_61_code 4 = .ok (.bipush 48, 2) := by decide +kernel
theorem d251_6 : decode prog_13_method_61_code 6 = .ok (.isub, 1) := by decide +kernel
theorem d251_7 : decode prog_13_method_61_code 7 = .ok (.istore_n 1, 1) := by decide +kernel
theorem d251_8 : decode prog_13_method_61_code 8 = .ok (.aload_n 0, 1) := by decide +kernel
theorem d251_9 : decode prog_13_method_61_code 9 = .ok (.iload_n 1, 1) := by decide +kernel
theorem d251_10 : decode prog_13_method_61_code 10 = .ok (.iconst 1, 1) := by decide +kernel
theorem d251_11 : decode prog_13_method_61_code 11 = .ok (.bipush 9, 2) := by decide +kernel
theorem d251_13 : decode prog_13_method_61_code 13 = .ok (.invokestatic 91, 3) := by decide +kernel
theorem k251_91_99 : xCa (xMo 251) 91 99 = some (0, 232, 3) := by decide +kernel
theorem d251_16 : decode prog_13_method_61_code 16 = .ok (.invokevirtual 291, 3) := by decide +kernel
theorem k251_291_11 : xCa (xMo 251) 291 11 = some (1, 245, 1) := by decide +kernel
theorem n251_291 : xcn (xMo 251) 291 = some 1 := by decide +kernel
theorem d251_19 : decode prog_13_method_61_code 19 = .ok (.bipush 10, 2) := by decide +kernel
theorem d251_21 : decode prog_13_method_61_code 21 = .ok (.iload_n 1, 1) := by decide +kernel
theorem d251_22 : decode prog_13_method_61_code 22 = .ok (.imul, 1) := by decide +kernel
theorem d251_23 : decode prog_13_method_61_code 23 = .ok (.aload_n 0, 1) := by decide +kernel
theorem d251_24 : decode prog_13_method_61_code 24 = .ok (.invokevirtual 288, 3) := by decide +kernel
theorem d251_27 : decode prog_13_method_61_code 27 = .ok (.iadd, 1) := by decide +kernel
theorem d251_28 : decode prog_13_method_61_code 28 = .ok (.bipush 48, 2) := by decide +kernel
theorem d251_30 : decode prog_13_method_61_code 30 = .ok (.isub, 1) := by decide +kernel
theorem d251_31 : decode prog_13_method_61_code 31 = .ok (.istore_n 2, 1) := by decide +kernel
theorem d251_32 : decode prog_13_method_61_code 32 = .ok (.aload_n 0, 1) := by decide +kernel
theorem d251_33 : decode prog_13_method_61_code 33 = .ok (.getfield 282, 3) := by decide +kernel
theorem f251_282 : xFd (xMo 251) 282 = some (11, 36) := by decide +kernel
theorem d251_36 : decode prog_13_method_61_code 36 = .ok (.ifCond .eq 27, 3) := by decide +kernel
theorem d251_39 : decode prog_13_method_61_code 39 = .ok (.aload_n 0, 1) := by decide +kernel
theorem d251_40 : decode prog_13_method_61_code 40 = .ok (.invokevirtual 288, 3) := by decide +kernel
theorem d251_43 : decode prog_13_method_61_code 43 = .ok (.bipush 48, 2) := by decide +kernel
theorem d251_45 : decode prog_13_method_61_code 45 = .ok (.bipush 57, 2) := by decide +kernel
theorem d251_47 : decode prog_13_method_61_code 47 = .ok (.invokestatic 91, 3) := by decide +kernel
theorem d251_50 : decode prog_13_method_61_code 50 = .ok (.ifCond .eq 13, 3) := by decide +kernel
theorem d251_53 : decode prog_13_method_61_code 53 = .ok (.iload_n 2, 1) := by decide +kernel
theorem d251_54 : decode prog_13_method_61_code 54 = .ok (.bipush 20, 2) := by decide +kernel
theorem d251_56 : decode prog_13_method_61_code 56 = .ok (.if_icmp .gt 7, 3) := by decide +kernel
theorem d251_59 : decode prog_13_method_61_code 59 = .ok (.iconst 1, 1) := by decide +kernel
theorem d251_60 : decode prog_13_method_61_code 60 = .ok (.goto 4, 3) := by decide +kernel
theorem d251_63 : decode prog_13_method_61_code 63 = .ok (.iconst 0, 1) := by decide +kernel
theorem d251_64 : decode prog_13_method_61_code 64 = .ok (.istore_n 3, 1) := by decide +kernel
theorem d251_65 : decode prog_13_method_61_code 65 = .ok (.aload_n 0, 1) := by decide +kernel
theorem d251_66 : decode prog_13_method_61_code 66 = .ok (.dup, 1) := by decide +kernel
theorem d251_67 : decode prog_13_method_61_code 67 = .ok (.getfield 276, 3) := by decide +kernel
theorem f251_276 : xFd (xMo 251) 276 = some (11, 35) := by decide +kernel
theorem d251_70 : decode prog_13_method_61_code 70 = .ok (.iload_n 3, 1) := by decide +kernel
theorem d251_71 : decode prog_13_method_61_code 71 = .ok (.ifCond .eq 7, 3) := by decide +kernel
theorem d251_74 : decode prog_13_method_61_code 74 = .ok (.iconst 1, 1) := by decide +kernel
theorem d251_75 : decode prog_13_method_61_code 75 = .ok (.goto 4, 3) := by decide +kernel
theorem d251_78 : decode prog_13_method_61_code 78 = .ok (.iconst 0, 1) := by decide +kernel
theorem d251_79 : decode prog_13_method_61_code 79 = .ok (.iadd, 1) := by decide +kernel
theorem d251_80 : decode prog_13_method_61_code 80 = .ok (.putfield 276, 3) := by decide +kernel
theorem d251_83 : decode prog_13_method_61_code 83 = .ok (.iload_n 3, 1) := by decide +kernel
theorem d251_84 : decode prog_13_method_61_code 84 = .ok (.ifCond .eq 9, 3) := by decide +kernel
theorem d251_87 : decode prog_13_method_61_code 87 = .ok (.iload_n 2, 1) := by decide +kernel
theorem d251_88 : decode prog_13_method_61_code 88 = .ok (.iconst 1, 1) := by decide +kernel
theorem d251_89 : decode prog_13_method_61_code 89 = .ok (.isub, 1) := by decide +kernel
theorem d251_90 : decode prog_13_method_61_code 90 = .ok (.goto 6, 3) := by decide +kernel
theorem d251_93 : decode prog_13_method_61_code 93 = .ok (.iload_n 1, 1) := by decide +kernel
theorem d251_94 : decode prog_13_method_61_code 94 = .ok (.iconst 1, 1) := by decide +kernel
theorem d251_95 : decode prog_13_method_61_code 95 = .ok (.isub, 1) := by decide +kernel
theorem d251_96 : decode prog_13_method_61_code 96 = .ok (.ireturn, 1) := by decide +kernel
set_option maxRecDepth 100000 in
theorem q252 : xMc 252 = prog_13_method_72_code := rfl
theorem m252 : xMl 252 = 2 ∧ xMret 252 = none ∧ xMh 252 = [] := by decide +kernel
theorem e252 {X : xX} {d : Nat} {w : xH} {Q : xO → xH → Prop} (a : Nat) : Cw X d 252 [.ref a] w Q = Wx X d 252 0 [some (.ref a), none] [] w Q := by
  unfold Cw
  rw [m252.1]
  rfl
theorem d252_0 : decode prog_13_method_72_code 0 = .ok (.aload_n 0, 1) := by decide +kernel
theorem d252_1 : decode prog_13_method_72_code 1 = .ok (.getfield 74, 3) := by decide +kernel
theorem f252_74 : xFd (xMo 252) 74 = some (11, 37) := by decide +kernel
theorem d252_4 : decode prog_13_method_72_code 4 = .ok (.aload_n 0, 1) := by decide +kernel
theorem d252_5 : decode prog_13_method_72_code 5 = .ok (.getfield 304, 3) := by decide +kernel
theorem f252_304 : xFd (xMo 252) 304 = some (11, 40) := by decide +kernel
theorem d252_8 : decode prog_13_method_72_code 8 = .ok (.iaload, 1) := by decide +kernel
theorem d252_9 : decode prog_13_method_72_code 9 = .ok (.iconst 4, 1) := by decide +kernel
theorem d252_10 : decode prog_13_method_72_code 10 = .ok (.if_icmp .ne 20, 3) := by decide +kernel
theorem d252_13 : decode prog_13_method_72_code 13 = .ok (.aload_n 0, 1) := by decide +kernel
theorem d252_14 : decode prog_13_method_72_code 14 = .ok (.getfield 81, 3) := by decide +kernel
theorem f252_81 : xFd (xMo 252) 81 = some (11, 39) := by decide +kernel
theorem d252_17 : decode prog_13_method_72_code 17 = .ok (.aload_n 0, 1) := by decide +kernel
theorem d252_18 : decode prog_13_method_72_code 18 = .ok (.getfield 304, 3) := by decide +kernel
theorem d252_21 : decode prog_13_method_72_code 21 = .ok (.iaload, 1) := by decide +kernel
theorem d252_22 : decode prog_13_method_72_code 22 = .ok (.iconst 2, 1) := by decide +kernel
theorem d252_23 : decode prog_13_method_72_code 23 = .ok (.if_icmp .ge 7, 3) := by decide +kernel
theorem d252_26 : decode prog_13_method_72_code 26 = .ok (.iconst 1, 1) := by decide +kernel
theorem d252_27 : decode prog_13_method_72_code 27 = .ok (.goto 4, 3) := by decide +kernel
theorem d252_30 : decode prog_13_method_72_code 30 = .ok (.iconst 0, 1) := by decide +kernel
theorem d252_31 : decode prog_13_method_72_code 31 = .ok (.istore_n 1, 1) := by decide +kernel
theorem d252_32 : decode prog_13_method_72_code 32 = .ok (.aload_n 0, 1) := by decide +kernel
theorem d252_33 : decode prog_13_method_72_code 33 = .ok (.aload_n 0, 1) := by decide +kernel
theorem d252_34 : decode prog_13_method_72_code 34 = .ok (.getfield 74, 3) := by decide +kernel
theorem d252_37 : decode prog_13_method_72_code 37 = .ok (.aload_n 0, 1) := by decide +kernel
theorem d252_38 : decode prog_13_method_72_code 38 = .ok (.getfield 304, 3) := by decide +kernel
theorem d252_41 : decode prog_13_method_72_code 41 = .ok (.iaload, 1) := by decide +kernel
theorem d252_42 : decode prog_13_method_72_code 42 = .ok (.iconst 2, 1) := by decide +kernel
theorem d252_43 : decode prog_13_method_72_code 43 = .ok (.if_icmp .eq 7, 3) := by decide +kernel
theorem d252_46 : decode prog_13_method_72_code 46 = .ok (.iload_n 1, 1) := by decide +kernel
theorem d252_47 : decode prog_13_method_72_code 47 = .ok (.ifCond .eq 7, 3) := by decide +kernel
theorem d252_50 : decode prog_13_method_72_code 50 = .ok (.iconst 1, 1) := by decide +kernel
theorem d252_51 : decode prog_13_method_72_code 51 = .ok (.goto 4, 3) := by decide +kernel
theorem d252_54 : decode prog_13_method_72_code 54 = .ok (.iconst 0, 1) := by decide +kernel
theorem d252_55 : decode prog_13_method_72_code 55 = .ok (.invokevirtual 291, 3) := by decide +kernel
theorem k252_291_11 : xCa (xMo 252) 291 11 = some (1, 245, 1) := by decide +kernel
theorem n252_291 : xcn (xMo 252) 291 = some 1 := by decide +kernel
theorem d252_58 : decode prog_13_method_72_code 58 = .ok (.aload_n 0, 1) := by decide +kernel
theorem d252_59 : decode prog_13_method_72_code 59 = .ok (.bipush 44, 2) := by decide +kernel
theorem d252_61 : decode prog_13_method_72_code 61 = .ok (.invokevirtual 298, 3) := by decide +kernel
theorem k252_298_11 : xCa (xMo 252) 298 11 = some (1, 242, 1) := by decide +kernel
theorem n252_298 : xcn (xMo 252) 298 = some 1 := by decide +kernel
theorem d252_64 : decode prog_13_method_72_code 64 = .ok (.aload_n 0, 1) := by decide +kernel
theorem d252_65 : decode prog_13_method_72_code 65 = .ok (.getfield 81, 3) := by decide +kernel
theorem d252_68 : decode prog_13_method_72_code 68 = .ok (.aload_n 0, 1) := by decide +kernel
theorem d252_69 : decode prog_13_method_72_code 69 = .ok (.getfield 304, 3) := by decide +kernel
theorem d252_72 : decode prog_13_method_72_code 72 = .ok (.dup2, 1) := by decide +kernel
theorem d252_73 : decode prog_13_method_72_code 73 = .ok (.iaload, 1) := by decide +kernel
theorem d252_74 : decode prog_13_method_72_code 74 = .ok (.iconst 1, 1) := by decide +kernel
theorem d252_75 : decode prog_13_method_72_code 75 = .ok (.iadd, 1) := by decide +kernel
theorem d252_76 : decode prog_13_method_72_code 76 = .ok (.iastore, 1) := by decide +kernel
theorem d252_77 : decode prog_13_method_72_code 77 = .ok (.aload_n 0, 1) := by decide +kernel
theorem d252_78 : decode prog_13_method_72_code 78 = .ok (.getfield 77, 3) := by decide +kernel
theorem f252_77 : xFd (xMo 252) 77 = some (11, 38) := by decide +kernel
theorem d252_81 : decode prog_13_method_72_code 81 = .ok (.aload_n 0, 1) := by decide +kernel
theorem d252_82 : decode prog_13_method_72_code 82 = .ok (.getfield 304, 3) := by decide +kernel
theorem d252_85 : decode prog_13_method_72_code 85 = .ok (.iconst 0, 1) := by decide +kernel
theorem d252_86 : decode prog_13_method_72_code 86 = .ok (.bastore, 1) := by decide +kernel
theorem d252_87 : decode prog_13_method_72_code 87 = .ok (.aload_n 0, 1) := by decide +kernel
theorem d252_88 : decode prog_13_method_72_code 88 = .ok (.aload_n 0, 1) := by decide +kernel
theorem d252_89 : decode prog_13_method_72_code 89 = .ok (.getfield 74, 3) := by decide +kernel
theorem d252_92 : decode prog_13_method_72_code 92 = .ok (.aload_n 0, 1) := by decide +kernel
theorem d252_93 : decode prog_13_method_72_code 93 = .ok (.getfield 304, 3) := by decide +kernel
theorem d252_96 : decode prog_13_method_72_code 96 = .ok (.iaload, 1) := by decide +kernel
theorem d252_97 : decode prog_13_method_72_code 97 = .ok (.iconst 2, 1) := by decide +kernel
theorem d252_98 : decode prog_13_method_72_code 98 = .ok (.if_icmp .ne 7, 3) := by decide +kernel
theorem d252_101 : decode prog_13_method_72_code 101 = .ok (.iconst 1, 1) := by decide +kernel
theorem d252_102 : decode prog_13_method_72_code 102 = .ok (.goto 4, 3) := by decide +kernel
theorem d252_105 : decode prog_13_method_72_code 105 = .ok (.iconst 0, 1) := by decide +kernel
theorem d252_106 : decode prog_13_method_72_code 106 = .ok (.putfield 301, 3) := by decide +kernel
theorem f252_301 : xFd (xMo 252) 301 = some (11, 41) := by decide +kernel
theorem d252_109 : decode prog_13_method_72_code 109 = .ok (.aload_n 0, 1) := by decide +kernel
theorem d252_110 : decode prog_13_method_72_code 110 = .ok (.iconst 0, 1) := by decide +kernel
theorem d252_111 : decode prog_13_method_72_code 111 = .ok (.putfield 307, 3) := by decide +kernel
theorem f252_307 : xFd (xMo 252) 307 = some (11, 42) := by decide +kernel
theorem d252_114 : decode prog_13_method_72_code 114 = .ok (.aload_n 0, 1) := by decide +kernel
theorem d252_115 : decode prog_13_method_72_code 115 = .ok (.iconst 0, 1) := by decide +kernel
theorem d252_116 : decode prog_13_method_72_code 116 = .ok (.putfield 316, 3) := by decide +kernel
theorem f252_316 : xFd (xMo 252) 316 = some (11, 43) := by decide +kernel
theorem d252_119 : decode prog_13_method_72_code 119 = .ok (.aload_n 0, 1) := by decide +kernel
theorem d252_120 : decode prog_13_method_72_code 120 = .ok (.iconst 1, 1) := by decide +kernel
theorem d252_121 : decode prog_13_method_72_code 121 = .ok (.putfield 310, 3) := by decide +kernel
theorem f252_310 : xFd (xMo 252) 310 = some (11, 44) := by decide +kernel
theorem d252_124 : decode prog_13_method_72_code 124 = .ok (.return_, 1) := by decide +kernel
set_option maxRecDepth 100000 in
theorem q253 : xMc 253 = prog_13_method_73_code := rfl
theorem m253 : xMl 253 = 1 ∧ xMret 253 = none ∧ xMh 253 = [] := by decide +kernel
theorem e253 {X : xX} {d : Nat} {w : xH} {Q : xO → xH → Prop} (a : Nat) : Cw X d 253 [.ref a] w Q = Wx X d 253 0 [some (.ref a)] [] w Q := by
  unfold Cw
  rw [m253.1]
  rfl
theorem d253_0 : decode prog_13_method_73_code 0 = .ok (.aload_n 0, 1) := by decide +kernel
theorem d253_1 : decode prog_13_method_73_code 1 = .ok (.aload_n 0, 1) := by decide +kernel
theorem d253_2 : decode prog_13_method_73_code 2 = .ok (.getfield 304, 3) := by decide +kernel
theorem f253_304 : xFd (xMo 253) 304 = some (11, 40) := by decide +kernel
theorem d253_5 : decode prog_13_method_73_code 5 = .ok (.ifCond .le 33, 3) := by decide +kernel
theorem d253_8 : decode prog_13_method_73_code 8 = .ok (.aload_n 0, 1) := by decide +kernel
theorem d253_9 : decode prog_13_method_73_code 9 = .ok (.getfield 74, 3) := by decide +kernel
theorem f253_74 : xFd (xMo 253) 74 = some (11, 37) := by decide +kernel
theorem d253_12 : decode prog_13_method_73_code 12 = .ok (.aload_n 0, 1) := by decide +kernel
theorem d253_13 : decode prog_13_method_73_code 13 = .ok (.getfield 304, 3) := by decide +kernel
theorem d253_16 : decode prog_13_method_73_code 16 = .ok (.iaload, 1) := by decide +kernel
theorem d253_17 : decode prog_13_method_73_code 17 = .ok (.iconst 4, 1) := by decide +kernel
theorem d253_18 : decode prog_13_method_73_code 18 = .ok (.if_icmp .lt 16, 3) := by decide +kernel
theorem d253_21 : decode prog_13_method_73_code 21 = .ok (.aload_n 0, 1) := by decide +kernel
theorem d253_22 : decode prog_13_method_73_code 22 = .ok (.getfield 81, 3) := by decide +kernel
theorem f253_81 : xFd (xMo 253) 81 = some (11, 39) := by decide +kernel
theorem d253_25 : decode prog_13_method_73_code 25 = .ok (.aload_n 0, 1) := by decide +kernel
theorem d253_26 : decode prog_13_method_73_code 26 = .ok (.getfield 304, 3) := by decide +kernel
theorem d253_29 : decode prog_13_method_73_code 29 = .ok (.iaload, 1) := by decide +kernel
theorem d253_30 : decode prog_13_method_73_code 30 = .ok (.iconst 2, 1) := by decide +kernel
theorem d253_31 : decode prog_13_method_73_code 31 = .ok (.if_icmp .ne 7, 3) := by decide +kernel
theorem d253_34 : decode prog_13_method_73_code 34 = .ok (.iconst 1, 1) := by decide +kernel
theorem d253_35 : decode prog_13_method_73_code 35 = .ok (.goto 4, 3) := by decide +kernel
theorem d253_38 : decode prog_13_method_73_code 38 = .ok (.iconst 0, 1) := by decide +kernel
theorem d253_39 : decode prog_13_method_73_code 39 = .ok (.invokevirtual 291, 3) := by decide +kernel
theorem k253_291_11 : xCa (xMo 253) 291 11 = some (1, 245, 1) := by decide +kernel
theorem n253_291 : xcn (xMo 253) 291 = some 1 := by decide +kernel
theorem d253_42 : decode prog_13_method_73_code 42 = .ok (.aload_n 0, 1) := by decide +kernel
theorem d253_43 : decode prog_13_method_73_code 43 = .ok (.bipush 41, 2) := by decide +kernel
theorem d253_45 : decode prog_13_method_73_code 45 = .ok (.invokevirtual 298, 3) := by decide +kernel
theorem k253_298_11 : xCa (xMo 253) 298 11 = some (1, 242, 1) := by decide +kernel
theorem n253_298 : xcn (xMo 253) 298 = some 1 := by decide +kernel
theorem d253_48 : decode prog_13_method_73_code 48 = .ok (.aload_n 0, 1) := by decide +kernel
theorem d253_49 : decode prog_13_method_73_code 49 = .ok (.dup, 1) := by decide +kernel
theorem d253_50 : decode prog_13_method_73_code 50 = .ok (.getfield 304, 3) := by decide +kernel
theorem d253_53 : decode prog_13_method_73_code 53 = .ok (.aload_n 0, 1) := by decide +kernel
theorem d253_54 : decode prog_13_method_73_code 54 = .ok (.getfield 282, 3) := by decide +kernel
theorem f253_282 : xFd (xMo 253) 282 = some (11, 36) := by decide +kernel
theorem d253_57 : decode prog_13_method_73_code 57 = .ok (.ifCond .eq 7, 3) := by decide +kernel
theorem d253_60 : decode prog_13_method_73_code 60 = .ok (.iconst 1, 1) := by decide +kernel
theorem d253_61 : decode prog_13_method_73_code 61 = .ok (.goto 4, 3) := by decide +kernel
theorem d253_64 : decode prog_13_method_73_code 64 = .ok (.iconst 0, 1) := by decide +kernel
theorem d253_65 : decode prog_13_method_73_code 65 = .ok (.isub, 1) := by decide +kernel
theorem d253_66 : decode prog_13_method_73_code 66 = .ok (.putfield 304, 3) := by decide +kernel
theorem d253_69 : decode prog_13_method_73_code 69 = .ok (.aload_n 0, 1) := by decide +kernel
theorem d253_70 : decode prog_13_method_73_code 70 = .ok (.iconst 0, 1) := by decide +kernel
theorem d253_71 : decode prog_13_method_73_code 71 = .ok (.putfield 307, 3) := by decide +kernel
theorem f253_307 : xFd (xMo 253) 307 = some (11, 42) := by decide +kernel
theorem d253_74 : decode prog_13_method_73_code 74 = .ok (.aload_n 0, 1) := by decide +kernel
theorem d253_75 : decode prog_13_method_73_code 75 = .ok (.iconst 0, 1) := by decide +kernel
theorem d253_76 : decode prog_13_method_73_code 76 = .ok (.putfield 316, 3) := by decide +kernel
theorem f253_316 : xFd (xMo 253) 316 = some (11, 43) := by decide +kernel
theorem d253_79 : decode prog_13_method_73_code 79 = .ok (.return_, 1) := by decide +kernel
set_option maxRecDepth 100000 in
theorem q254 : xMc 254 = prog_13_method_74_code := rfl
theorem m254 : xMl 254 = 1 ∧ xMret 254 = none ∧ xMh 254 = [] := by decide +kernel
theorem e254 {X : xX} {d : Nat} {w : xH} {Q : xO → xH → Prop} (a : Nat) : Cw X d 254 [.ref a] w Q = Wx X d 254 0 [some (.ref a)] [] w Q := by
  unfold Cw
  rw [m254.1]
  rfl
theorem d254_0 : decode prog_13_method_74_code 0 = .ok (.aload_n 0, 1) := by decide +kernel
theorem d254_1 : decode prog_13_method_74_code 1 = .ok (.aload_n 0, 1) := by decide +kernel
theorem d254_2 : decode prog_13_method_74_code 2 = .ok (.getfield 307, 3) := by decide +kernel
theorem f254_307 : xFd (xMo 254) 307 = some (11, 42) := by decide +kernel
theorem d254_5 : decode prog_13_method_74_code 5 = .ok (.invokevirtual 291, 3) := by decide +kernel
theorem k254_291_11 : xCa (xMo 254) 291 11 = some (1, 245, 1) := by decide +kernel
theorem n254_291 : xcn (xMo 254) 291 = some 1 := by decide +kernel
theorem d254_8 : decode prog_13_method_74_code 8 = .ok (.aload_n 0, 1) := by decide +kernel
theorem d254_9 : decode prog_13_method_74_code 9 = .ok (.bipush 58, 2) := by decide +kernel
theorem d254_11 : decode prog_13_method_74_code 11 = .ok (.invokevirtual 298, 3) := by decide +kernel
theorem k254_298_11 : xCa (xMo 254) 298 11 = some (1, 242, 1) := by decide +kernel
theorem n254_298 : xcn (xMo 254) 298 = some 1 := by decide +kernel
theorem d254_14 : decode prog_13_method_74_code 14 = .ok (.aload_n 0, 1) := by decide +kernel
theorem d254_15 : decode prog_13_method_74_code 15 = .ok (.getfield 282, 3) := by decide +kernel
theorem f254_282 : xFd (xMo 254) 282 = some (11, 36) := by decide +kernel
theorem d254_18 : decode prog_13_method_74_code 18 = .ok (.ifCond .eq 7, 3) := by decide +kernel
theorem d254_21 : decode prog_13_method_74_code 21 = .ok (.aload_n 0, 1) := by decide +kernel
theorem d254_22 : decode prog_13_method_74_code 22 = .ok (.invokevirtual 328, 3) := by decide +kernel
theorem k254_328_11 : xCa (xMo 254) 328 11 = some (1, 249, 0) := by decide +kernel
theorem n254_328 : xcn (xMo 254) 328 = some 0 := by decide +kernel
theorem d254_25 : decode prog_13_method_74_code 25 = .ok (.aload_n 0, 1) := by decide +kernel
theorem d254_26 : decode prog_13_method_74_code 26 = .ok (.iconst 0, 1) := by decide +kernel
theorem d254_27 : decode prog_13_method_74_code 27 = .ok (.putfield 307, 3) := by decide +kernel
theorem d254_30 : decode prog_13_method_74_code 30 = .ok (.aload_n 0, 1) := by decide +kernel
theorem d254_31 : decode prog_13_method_74_code 31 = .ok (.iconst 1, 1) := by decide +kernel
theorem d254_32 : decode prog_13_method_74_code 32 = .ok (.putfield 316, 3) := by decide +kernel
theorem f254_316 : xFd (xMo 254) 316 = some (11, 43) := by decide +kernel
theorem d254_35 : decode prog_13_method_74_code 35 = .ok (.return_, 1) := by decide +kernel
set_option maxRecDepth 100000 in
theorem q255 : xMc 255 = prog_13_method_71_code := rfl
theorem m255 : xMl 255 = 3 ∧ xMret 255 = none ∧ xMh 255 = [] := by decide +kernel
theorem e255 {X : xX} {d : Nat} {w : xH} {Q : xO → xH → Prop} (a : Nat) (x0 : Int32) : Cw X d 255 [.ref a, .int x0] w Q = Wx X d 255 0 [some (.ref a), some (.int x0), none] [] w Q := by
  unfold Cw
  rw [m255.1]
  rfl
theorem d255_0 : decode prog_13_method_71_code 0 = .ok (.iload_n 1, 1) := by decide +kernel
theorem d255_1 : decode prog_13_method_71_code 1 = .ok (.invokestatic 337, 3) := by decide +kernel
theorem k255_337_99 : xCa (xMo 255) 337 99 = some (0, 256, 1) := by decide +kernel
theorem d255_4 : decode prog_13_method_71_code 4 = .ok (.istore_n 2, 1) := by decide +kernel
theorem d255_5 : decode prog_13_method_71_code 5 = .ok (.aload_n 0, 1) := by decide +kernel
theorem d255_6 : decode prog_13_method_71_code 6 = .ok (.aload_n 0, 1) := by decide +kernel
theorem d255_7 : decode prog_13_method_71_code 7 = .ok (.getfield 316, 3) := by decide +kernel
theorem f255_316 : xFd (xMo 255) 316 = some (11, 43) := by decide +kernel
theorem d255_10 : decode prog_13_method_71_code 10 = .ok (.ifCond .ne 30, 3) := by decide +kernel
theorem d255_13 : decode prog_13_method_71_code 13 = .ok (.iload_n 1, 1) := by decide +kernel
theorem d255_14 : decode prog_13_method_71_code 14 = .ok (.invokestatic 340, 3) := by decide +kernel
theorem k255_340_99 : xCa (xMo 255) 340 99 = some (0, 257, 1) := by decide +kernel
theorem d255_17 : decode prog_13_method_71_code 17 = .ok (.ifCond .ne 19, 3) := by decide +kernel
theorem d255_20 : decode prog_13_method_71_code 20 = .ok (.iload_n 2, 1) := by decide +kernel
theorem d255_21 : decode prog_13_method_71_code 21 = .ok (.ifCond .eq 19, 3) := by decide +kernel
theorem d255_24 : decode prog_13_method_71_code 24 = .ok (.aload_n 0, 1) := by decide +kernel
theorem d255_25 : decode prog_13_method_71_code 25 = .ok (.getfield 77, 3) := by decide +kernel
theorem f255_77 : xFd (xMo 255) 77 = some (11, 38) := by decide +kernel
theorem d255_28 : decode prog_13_method_71_code 28 = .ok (.aload_n 0, 1) := by decide +kernel
theorem d255_29 : decode prog_13_method_71_code 29 = .ok (.getfield 304, 3) := by decide +kernel
theorem f255_304 : xFd (xMo 255) 304 = some (11, 40) := by decide +kernel
theorem d255_32 : decode prog_13_method_71_code 32 = .ok (.baload, 1) := by decide +kernel
theorem d255_33 : decode prog_13_method_71_code 33 = .ok (.ifCond .ne 7, 3) := by decide +kernel
theorem d255_36 : decode prog_13_method_71_code 36 = .ok (.iconst 1, 1) := by decide +kernel
theorem d255_37 : decode prog_13_method_71_code 37 = .ok (.goto 4, 3) := by decide +kernel
theorem d255_40 : decode prog_13_method_71_code 40 = .ok (.iconst 0, 1) := by decide +kernel
theorem d255_41 : decode prog_13_method_71_code 41 = .ok (.invokevirtual 291, 3) := by decide +kernel
theorem k255_291_11 : xCa (xMo 255) 291 11 = some (1, 245, 1) := by decide +kernel
theorem n255_291 : xcn (xMo 255) 291 = some 1 := by decide +kernel
theorem d255_44 : decode prog_13_method_71_code 44 = .ok (.aload_n 0, 1) := by decide +kernel
theorem d255_45 : decode prog_13_method_71_code 45 = .ok (.iload_n 1, 1) := by decide +kernel
theorem d255_46 : decode prog_13_method_71_code 46 = .ok (.invokevirtual 298, 3) := by decide +kernel
theorem k255_298_11 : xCa (xMo 255) 298 11 = some (1, 242, 1) := by decide +kernel
theorem n255_298 : xcn (xMo 255) 298 = some 1 := by decide +kernel
theorem d255_49 : decode prog_13_method_71_code 49 = .ok (.aload_n 0, 1) := by decide +kernel
theorem d255_50 : decode prog_13_method_71_code 50 = .ok (.getfield 77, 3) := by decide +kernel
theorem d255_53 : decode prog_13_method_71_code 53 = .ok (.aload_n 0, 1) := by decide +kernel
theorem d255_54 : decode prog_13_method_71_code 54 = .ok (.getfield 304, 3) := by decide +kernel
theorem d255_57 : decode prog_13_method_71_code 57 = .ok (.aload_n 0, 1) := by decide +kernel
theorem d255_58 : decode prog_13_method_71_code 58 = .ok (.getfield 77, 3) := by decide +kernel
theorem d255_61 : decode prog_13_method_71_code 61 = .ok (.aload_n 0, 1) := by decide +kernel
theorem d255_62 : decode prog_13_method_71_code 62 = .ok (.getfield 304, 3) := by decide +kernel
theorem d255_65 : decode prog_13_method_71_code 65 = .ok (.baload, 1) := by decide +kernel
theorem d255_66 : decode prog_13_method_71_code 66 = .ok (.ifCond .ne 7, 3) := by decide +kernel
theorem d255_69 : decode prog_13_method_71_code 69 = .ok (.iload_n 2, 1) := by decide +kernel
theorem d255_70 : decode prog_13_method_71_code 70 = .ok (.ifCond .eq 7, 3) := by decide +kernel
theorem d255_73 : decode prog_13_method_71_code 73 = .ok (.iconst 1, 1) := by decide +kernel
theorem d255_74 : decode prog_13_method_71_code 74 = .ok (.goto 4, 3) := by decide +kernel
theorem d255_77 : decode prog_13_method_71_code 77 = .ok (.iconst 0, 1) := by decide +kernel
theorem d255_78 : decode prog_13_method_71_code 78 = .ok (.bastore, 1) := by decide +kernel
theorem d255_79 : decode prog_13_method_71_code 79 = .ok (.aload_n 0, 1) := by decide +kernel
theorem d255_80 : decode prog_13_method_71_code 80 = .ok (.iconst 0, 1) := by decide +kernel
theorem d255_81 : decode prog_13_method_71_code 81 = .ok (.putfield 307, 3) := by decide +kernel
theorem f255_307 : xFd (xMo 255) 307 = some (11, 42) := by decide +kernel
theorem d255_84 : decode prog_13_method_71_code 84 = .ok (.aload_n 0, 1) := by decide +kernel
theorem d255_85 : decode prog_13_method_71_code 85 = .ok (.iconst 1, 1) := by decide +kernel
theorem d255_86 : decode prog_13_method_71_code 86 = .ok (.putfield 310, 3) := by decide +kernel
theorem f255_310 : xFd (xMo 255) 310 = some (11, 44) := by decide +kernel
theorem d255_89 : decode prog_13_method_71_code 89 = .ok (.return_, 1) := by decide +kernel
set_option maxRecDepth 100000 in
theorem q256 : xMc 256 = prog_13_method_69_code := rfl
theorem m256 : xMl 256 = 1 ∧ xMret 256 = (some FieldType.boolean) ∧ xMh 256 = [] := by decide +kernel
theorem e256 {X : xX} {d : Nat} {w : xH} {Q : xO → xH → Prop} (x0 : Int32) : Cw X d 256 [.int x0] w Q = Wx X d 256 0 [some (.int x0)] [] w Q := by
  unfold Cw
  rw [m256.1]
  rfl
theorem d256_0 : decode prog_13_method_69_code 0 = .ok (.iload_n 0, 1) := by decide +kernel
theorem d256_1 : decode prog_13_method_69_code 1 = .ok (.bipush 60, 2) := by decide +kernel
theorem d256_3 : decode prog_13_method_69_code 3 = .ok (.if_icmp .eq 15, 3) := by decide +kernel
theorem d256_6 : decode prog_13_method_69_code 6 = .ok (.iload_n 0, 1) := by decide +kernel
theorem d256_7 : decode prog_13_method_69_code 7 = .ok (.bipush 62, 2) := by decide +kernel
theorem d256_9 : decode prog_13_method_69_code 9 = .ok (.if_icmp .eq 9, 3) := by decide +kernel
theorem d256_12 : decode prog_13_method_69_code 12 = .ok (.iload_n 0, 1) := by decide +kernel
theorem d256_13 : decode prog_13_method_69_code 13 = .ok (.bipush 61, 2) := by decide +kernel
theorem d256_15 : decode prog_13_method_69_code 15 = .ok (.if_icmp .ne 7, 3) := by decide +kernel
theorem d256_18 : decode prog_13_method_69_code 18 = .ok (.iconst 1, 1) := by decide +kernel
theorem d256_19 : decode prog_13_method_69_code 19 = .ok (.goto 4, 3) := by decide +kernel
theorem d256_22 : decode prog_13_method_69_code 22 = .ok (.iconst 0, 1) := by decide +kernel
theorem d256_23 : decode prog_13_method_69_code 23 = .ok (.ireturn, 1) := by decide +kernel
set_option maxRecDepth 100000 in
theorem q257 : xMc 257 = prog_13_method_70_code := rfl
theorem m257 : xMl 257 = 1 ∧ xMret 257 = (some FieldType.boolean) ∧ xMh 257 = [] := by decide +kernel
theorem e257 {X : xX} {d : Nat} {w : xH} {Q : xO → xH → Prop} (x0 : Int32) : Cw X d 257 [.int x0] w Q = Wx X d 257 0 [some (.int x0)] [] w Q := by
  unfold Cw
  rw [m257.1]
  rfl
theorem d257_0 : decode prog_13_method_70_code 0 = .ok (.iload_n 0, 1) := by decide +kernel
theorem d257_1 : decode prog_13_method_70_code 1 = .ok (.bipush 43, 2) := by decide +kernel
theorem d257_3 : decode prog_13_method_70_code 3 = .ok (.if_icmp .eq 21, 3) := by decide +kernel
theorem d257_6 : decode prog_13_method_70_code 6 = .ok (.iload_n 0, 1) := by decide +kernel
theorem d257_7 : decode prog_13_method_70_code 7 = .ok (.bipush 45, 2) := by decide +kernel
theorem d257_9 : decode prog_13_method_70_code 9 = .ok (.if_icmp .eq 15, 3) := by decide +kernel
theorem d257_12 : decode prog_13_method_70_code 12 = .ok (.iload_n 0, 1) := by decide +kernel
theorem d257_13 : decode prog_13_method_70_code 13 = .ok (.bipush 42, 2) := by decide +kernel
theorem d257_15 : decode prog_13_method_70_code 15 = .ok (.if_icmp .eq 9, 3) := by decide +kernel
theorem d257_18 : decode prog_13_method_70_code 18 = .ok (.iload_n 0, 1) := by decide +kernel
theorem d257_19 : decode prog_13_method_70_code 19 = .ok (.bipush 47, 2) := by decide +kernel
theorem d257_21 : decode prog_13_method_70_code 21 = .ok (.if_icmp .ne 7, 3) := by decide +kernel
theorem d257_24 : decode prog_13_method_70_code 24 = .ok (.iconst 1, 1) := by decide +kernel
theorem d257_25 : decode prog_13_method_70_code 25 = .ok (.goto 4, 3) := by decide +kernel
theorem d257_28 : decode prog_13_method_70_code 28 = .ok (.iconst 0, 1) := by decide +kernel
theorem d257_29 : decode prog_13_method_70_code 29 = .ok (.ireturn, 1) := by decide +kernel
set_option maxRecDepth 100000 in
theorem q258 : xMc 258 = prog_13_method_85_code := rfl
theorem m258 : xMl 258 = 1 ∧ xMret 258 = (some FieldType.int) ∧ xMh 258 = [] := by decide +kernel
theorem e258 {X : xX} {d : Nat} {w : xH} {Q : xO → xH → Prop} (a : Nat) : Cw X d 258 [.ref a] w Q = Wx X d 258 0 [some (.ref a)] [] w Q := by
  unfold Cw
  rw [m258.1]
  rfl
theorem d258_0 : decode prog_13_method_85_code 0 = .ok (.aload_n 0, 1) := by decide +kernel
theorem d258_1 : decode prog_13_method_85_code 1 = .ok (.iconst 0, 1) := by decide +kernel
theorem d258_2 : decode prog_13_method_85_code 2 = .ok (.putfield 87, 3) := by decide +kernel
theorem f258_87 : xFd (xMo 258) 87 = some (11, 11) := by decide +kernel
theorem d258_5 : decode prog_13_method_85_code 5 = .ok (.aload_n 0, 1) := by decide +kernel
theorem d258_6 : decode prog_13_method_85_code 6 = .ok (.invokevirtual 389, 3) := by decide +kernel
theorem k258_389_11 : xCa (xMo 258) 389 11 = some (1, 259, 0) := by decide +kernel
theorem n258_389 : xcn (xMo 258) 389 = some 0 := by decide +kernel
theorem d258_9 : decode prog_13_method_85_code 9 = .ok (.ifCond .eq 7, 3) := by decide +kernel
theorem d258_12 : decode prog_13_method_85_code 12 = .ok (.iconst (-1), 1) := by decide +kernel
theorem d258_13 : decode prog_13_method_85_code 13 = .ok (.goto 7, 3) := by decide +kernel
theorem d258_16 : decode prog_13_method_85_code 16 = .ok (.aload_n 0, 1) := by decide +kernel
theorem d258_17 : decode prog_13_method_85_code 17 = .ok (.getfield 276, 3) := by decide +kernel
theorem f258_276 : xFd (xMo 258) 276 = some (11, 35) := by decide +kernel
theorem d258_20 : decode prog_13_method_85_code 20 = .ok (.ireturn, 1) := by decide +kernel
set_option maxRecDepth 100000 in
theorem q259 : xMc 259 = prog_13_method_80_code := rfl
theorem m259 : xMl 259 = 1 ∧ xMret 259 = (some FieldType.boolean) ∧ xMh 259 = [] := by decide +kernel
theorem e259 {X : xX} {d : Nat} {w : xH} {Q : xO → xH → Prop} (a : Nat) : Cw X d 259 [.ref a] w Q = Wx X d 259 0 [some (.ref a)] [] w Q := by
  unfold Cw
  rw [m259.1]
  rfl
theorem d259_0 : decode prog_13_method_80_code 0 = .ok (.aload_n 0, 1) := by decide +kernel
theorem d259_1 : decode prog_13_method_80_code 1 = .ok (.iconst 0, 1) := by decide +kernel
theorem d259_2 : decode prog_13_method_80_code 2 = .ok (.putfield 276, 3) := by decide +kernel
theorem f259_276 : xFd (xMo 259) 276 = some (11, 35) := by decide +kernel
theorem d259_5 : decode prog_13_method_80_code 5 = .ok (.aload_n 0, 1) := by decide +kernel
theorem d259_6 : decode prog_13_method_80_code 6 = .ok (.iconst 1, 1) := by decide +kernel
theorem d259_7 : decode prog_13_method_80_code 7 = .ok (.putfield 282, 3) := by decide +kernel
theorem f259_282 : xFd (xMo 259) 282 = some (11, 36) := by decide +kernel
theorem d259_10 : decode prog_13_method_80_code 10 = .ok (.aload_n 0, 1) := by decide +kernel
theorem d259_11 : decode prog_13_method_80_code 11 = .ok (.getfield 282, 3) := by decide +kernel
theorem d259_14 : decode prog_13_method_80_code 14 = .ok (.ifCond .eq 21, 3) := by decide +kernel
theorem d259_17 : decode prog_13_method_80_code 17 = .ok (.aload_n 0, 1) := by decide +kernel
theorem d259_18 : decode prog_13_method_80_code 18 = .ok (.getfield 276, 3) := by decide +kernel
theorem d259_21 : decode prog_13_method_80_code 21 = .ok (.aload_n 0, 1) := by decide +kernel
theorem d259_22 : decode prog_13_method_80_code 22 = .ok (.getfield 279, 3) := by decide +kernel
theorem f259_279 : xFd (xMo 259) 279 = some (11, 10) := by decide +kernel
theorem d259_25 : decode prog_13_method_80_code 25 = .ok (.if_icmp .ge 10, 3) := by decide +kernel
theorem d259_28 : decode prog_13_method_80_code 28 = .ok (.aload_n 0, 1) := by decide +kernel
theorem d259_29 : decode prog_13_method_80_code 29 = .ok (.invokevirtual 376, 3) := by decide +kernel
theorem k259_376_11 : xCa (xMo 259) 376 11 = some (1, 260, 0) := by decide +kernel
theorem n259_376 : xcn (xMo 259) 376 = some 0 := by decide +kernel
theorem d259_32 : decode prog_13_method_80_code 32 = .ok (.goto (-22), 3) := by decide +kernel
theorem d259_35 : decode prog_13_method_80_code 35 = .ok (.aload_n 0, 1) := by decide +kernel
theorem d259_36 : decode prog_13_method_80_code 36 = .ok (.getfield 282, 3) := by decide +kernel
theorem d259_39 : decode prog_13_method_80_code 39 = .ok (.ireturn, 1) := by decide +kernel
set_option maxRecDepth 100000 in
theorem q260 : xMc 260 = prog_13_method_79_code := rfl
theorem m260 : xMl 260 = 3 ∧ xMret 260 = none ∧ xMh 260 = [] := by decide +kernel
theorem e260 {X : xX} {d : Nat} {w : xH} {Q : xO → xH → Prop} (a : Nat) : Cw X d 260 [.ref a] w Q = Wx X d 260 0 [some (.ref a), none, none] [] w Q := by
  unfold Cw
  rw [m260.1]
  rfl
theorem d260_0 : decode prog_13_method_79_code 0 = .ok (.aload_n 0, 1) := by decide +kernel
theorem d260_1 : decode prog_13_method_79_code 1 = .ok (.invokevirtual 288, 3) := by decide +kernel
theorem k260_288_11 : xCa (xMo 260) 288 11 = some (1, 238, 0) := by decide +kernel
theorem n260_288 : xcn (xMo 260) 288 = some 0 := by decide +kernel
theorem d260_4 : decode prog_13_method_79_code 4 = .ok (.bipush 65, 2) := by decide +kernel
theorem d260_6 : decode prog_13_method_79_code 6 = .ok (.isub, 1) := by decide +kernel
theorem d260_7 : decode prog_13_method_79_code 7 = .ok (.istore_n 1, 1) := by decide +kernel
theorem d260_8 : decode prog_13_method_79_code 8 = .ok (.aload_n 0, 1) := by decide +kernel
theorem d260_9 : decode prog_13_method_79_code 9 = .ok (.iload_n 1, 1) := by decide +kernel
theorem d260_10 : decode prog_13_method_79_code 10 = .ok (.iconst 0, 1) := by decide +kernel
theorem d260_11 : decode prog_13_method_79_code 11 = .ok (.bipush 9, 2) := by decide +kernel
theorem d260_13 : decode prog_13_method_79_code 13 = .ok (.invokestatic 91, 3) := by decide +kernel
theorem k260_91_99 : xCa (xMo 260) 91 99 = some (0, 232, 3) := by decide +kernel
theorem d260_16 : decode prog_13_method_79_code 16 = .ok (.invokevirtual 291, 3) := by decide +kernel
theorem k260_291_11 : xCa (xMo 260) 291 11 = some (1, 245, 1) := by decide +kernel
theorem n260_291 : xcn (xMo 260) 291 = some 1 := by decide +kernel
theorem d260_19 : decode prog_13_method_79_code 19 = .ok (.aload_n 0, 1) := by decide +kernel
theorem d260_20 : decode prog_13_method_79_code 20 = .ok (.getfield 282, 3) := by decide +kernel
theorem f260_282 : xFd (xMo 260) 282 = some (11, 36) := by decide +kernel
theorem d260_23 : decode prog_13_method_79_code 23 = .ok (.ifCond .eq 10, 3) := by decide +kernel
theorem d260_26 : decode prog_13_method_79_code 26 = .ok (.aload_n 0, 1) := by decide +kernel
theorem d260_27 : decode prog_13_method_79_code 27 = .ok (.invokevirtual 295, 3) := by decide +kernel
theorem k260_295_11 : xCa (xMo 260) 295 11 = some (1, 251, 0) := by decide +kernel
theorem n260_295 : xcn (xMo 260) 295 = some 0 := by decide +kernel
theorem d260_30 : decode prog_13_method_79_code 30 = .ok (.goto 4, 3) := by decide +kernel
theorem d260_33 : decode prog_13_method_79_code 33 = .ok (.iconst 0, 1) := by decide +kernel
theorem d260_34 : decode prog_13_method_79_code 34 = .ok (.istore_n 2, 1) := by decide +kernel
theorem d260_35 : decode prog_13_method_79_code 35 = .ok (.aload_n 0, 1) := by decide +kernel
theorem d260_36 : decode prog_13_method_79_code 36 = .ok (.bipush 10, 2) := by decide +kernel
theorem d260_38 : decode prog_13_method_79_code 38 = .ok (.iload_n 2, 1) := by decide +kernel
theorem d260_39 : decode prog_13_method_79_code 39 = .ok (.imul, 1) := by decide +kernel
theorem d260_40 : decode prog_13_method_79_code 40 = .ok (.iload_n 1, 1) := by decide +kernel
theorem d260_41 : decode prog_13_method_79_code 41 = .ok (.iadd, 1) := by decide +kernel
theorem d260_42 : decode prog_13_method_79_code 42 = .ok (.putfield 373, 3) := by decide +kernel
theorem f260_373 : xFd (xMo 260) 373 = some (11, 45) := by decide +kernel
theorem d260_45 : decode prog_13_method_79_code 45 = .ok (.aload_n 0, 1) := by decide +kernel
theorem d260_46 : decode prog_13_method_79_code 46 = .ok (.aload_n 0, 1) := by decide +kernel
theorem d260_47 : decode prog_13_method_79_code 47 = .ok (.invokevirtual 288, 3) := by decide +kernel
theorem d260_50 : decode prog_13_method_79_code 50 = .ok (.bipush 58, 2) := by decide +kernel
theorem d260_52 : decode prog_13_method_79_code 52 = .ok (.if_icmp .ne 7, 3) := by decide +kernel
theorem d260_55 : decode prog_13_method_79_code 55 = .ok (.iconst 1, 1) := by decide +kernel
theorem d260_56 : decode prog_13_method_79_code 56 = .ok (.goto 4, 3) := by decide +kernel
theorem d260_59 : decode prog_13_method_79_code 59 = .ok (.iconst 0, 1) := by decide +kernel
theorem d260_60 : decode prog_13_method_79_code 60 = .ok (.invokevirtual 291, 3) := by decide +kernel
theorem d260_63 : decode prog_13_method_79_code 63 = .ok (.aload_n 0, 1) := by decide +kernel
theorem d260_64 : decode prog_13_method_79_code 64 = .ok (.bipush 59, 2) := by decide +kernel
theorem d260_66 : decode prog_13_method_79_code 66 = .ok (.invokevirtual 370, 3) := by decide +kernel
theorem k260_370_11 : xCa (xMo 260) 370 11 = some (1, 237, 1) := by decide +kernel
theorem n260_370 : xcn (xMo 260) 370 = some 1 := by decide +kernel
theorem d260_69 : decode prog_13_method_79_code 69 = .ok (.aload_n 0, 1) := by decide +kernel
theorem d260_70 : decode prog_13_method_79_code 70 = .ok (.aload_n 0, 1) := by decide +kernel
theorem d260_71 : decode prog_13_method_79_code 71 = .ok (.invokevirtual 288, 3) := by decide +kernel
theorem d260_74 : decode prog_13_method_79_code 74 = .ok (.bipush 59, 2) := by decide +kernel
theorem d260_76 : decode prog_13_method_79_code 76 = .ok (.if_icmp .ne 7, 3) := by decide +kernel
theorem d260_79 : decode prog_13_method_79_code 79 = .ok (.iconst 1, 1) := by decide +kernel
theorem d260_80 : decode prog_13_method_79_code 80 = .ok (.goto 4, 3) := by decide +kernel
theorem d260_83 : decode prog_13_method_79_code 83 = .ok (.iconst 0, 1) := by decide +kernel
theorem d260_84 : decode prog_13_method_79_code 84 = .ok (.invokevirtual 291, 3) := by decide +kernel
theorem d260_87 : decode prog_13_method_79_code 87 = .ok (.return_, 1) := by decide +kernel
set_option maxRecDepth 100000 in
theorem q261 : xMc 261 = prog_13_method_86_code := rfl
theorem m261 : xMl 261 = 2 ∧ xMret 261 = (some FieldType.int) ∧ xMh 261 = [] := by decide +kernel
theorem e261 {X : xX} {d : Nat} {w : xH} {Q : xO → xH → Prop} (a : Nat) (x0 : Int32) : Cw X d 261 [.ref a, .int x0] w Q = Wx X d 261 0 [some (.ref a), some (.int x0)] [] w Q := by
  unfold Cw
  rw [m261.1]
  rfl
theorem d261_0 : decode prog_13_method_86_code 0 = .ok (.aload_n 0, 1) := by decide +kernel
theorem d261_1 : decode prog_13_method_86_code 1 = .ok (.iload_n 1, 1) := by decide +kernel
theorem d261_2 : decode prog_13_method_86_code 2 = .ok (.invokestatic 392, 3) := by decide +kernel
theorem k261_392_99 : xCa (xMo 261) 392 99 = some (0, 262, 1) := by decide +kernel
theorem d261_5 : decode prog_13_method_86_code 5 = .ok (.invokevirtual 395, 3) := by decide +kernel
theorem k261_395_11 : xCa (xMo 261) 395 11 = some (1, 263, 1) := by decide +kernel
theorem n261_395 : xcn (xMo 261) 395 = some 1 := by decide +kernel
theorem d261_8 : decode prog_13_method_86_code 8 = .ok (.ifCond .ne 5, 3) := by decide +kernel
theorem d261_11 : decode prog_13_method_86_code 11 = .ok (.iconst 0, 1) := by decide +kernel
theorem d261_12 : decode prog_13_method_86_code 12 = .ok (.ireturn, 1) := by decide +kernel
theorem d261_13 : decode prog_13_method_86_code 13 = .ok (.aload_n 0, 1) := by decide +kernel
theorem d261_14 : decode prog_13_method_86_code 14 = .ok (.invokevirtual 385, 3) := by decide +kernel
theorem k261_385_11 : xCa (xMo 261) 385 11 = some (1, 236, 0) := by decide +kernel
theorem n261_385 : xcn (xMo 261) 385 = some 0 := by decide +kernel
theorem d261_17 : decode prog_13_method_86_code 17 = .ok (.ifCond .ne 9, 3) := by decide +kernel
theorem d261_20 : decode prog_13_method_86_code 20 = .ok (.aload_n 0, 1) := by decide +kernel
theorem d261_21 : decode prog_13_method_86_code 21 = .ok (.iconst 2, 1) := by decide +kernel
theorem d261_22 : decode prog_13_method_86_code 22 = .ok (.invokevirtual 382, 3) := by decide +kernel
theorem k261_382_11 : xCa (xMo 261) 382 11 = some (1, 233, 1) := by decide +kernel
theorem n261_382 : xcn (xMo 261) 382 = some 1 := by decide +kernel
theorem d261_25 : decode prog_13_method_86_code 25 = .ok (.ireturn, 1) := by decide +kernel
theorem d261_26 : decode prog_13_method_86_code 26 = .ok (.aload_n 0, 1) := by decide +kernel
theorem d261_27 : decode prog_13_method_86_code 27 = .ok (.invokevirtual 399, 3) := by decide +kernel
theorem k261_399_11 : xCa (xMo 261) 399 11 = some (1, 264, 0) := by decide +kernel
theorem n261_399 : xcn (xMo 261) 399 = some 0 := by decide +kernel
theorem d261_30 : decode prog_13_method_86_code 30 = .ok (.aload_n 0, 1) := by decide +kernel
theorem d261_31 : decode prog_13_method_86_code 31 = .ok (.iload_n 1, 1) := by decide +kernel
theorem d261_32 : decode prog_13_method_86_code 32 = .ok (.invokevirtual 402, 3) := by decide +kernel
theorem k261_402_11 : xCa (xMo 261) 402 11 = some (1, 267, 1) := by decide +kernel
theorem n261_402 : xcn (xMo 261) 402 = some 1 := by decide +kernel
theorem d261_35 : decode prog_13_method_86_code 35 = .ok (.aload_n 0, 1) := by decide +kernel
theorem d261_36 : decode prog_13_method_86_code 36 = .ok (.iload_n 1, 1) := by decide +kernel
theorem d261_37 : decode prog_13_method_86_code 37 = .ok (.invokevirtual 405, 3) := by decide +kernel
theorem k261_405_11 : xCa (xMo 261) 405 11 = some (1, 270, 1) := by decide +kernel
theorem n261_405 : xcn (xMo 261) 405 = some 1 := by decide +kernel
theorem d261_40 : decode prog_13_method_86_code 40 = .ok (.ireturn, 1) := by decide +kernel
set_option maxRecDepth 100000 in
theorem q262 : xMc 262 = prog_13_method_6_code := rfl
theorem m262 : xMl 262 = 1 ∧ xMret 262 = (some FieldType.boolean) ∧ xMh 262 = [] := by decide +kernel
theorem e262 {X : xX} {d : Nat} {w : xH} {Q : xO → xH → Prop} (x0 : Int32) : Cw X d 262 [.int x0] w Q = Wx X d 262 0 [some (.int x0)] [] w Q := by
  unfold Cw
  rw [m262.1]
  rfl
theorem d262_0 : decode prog_13_method_6_code 0 = .ok (.iload_n 0, 1) := by decide +kernel
theorem d262_1 : decode prog_13_method_6_code 1 = .ok (.iconst 0, 1) := by decide +kernel
theorem d262_2 : decode prog_13_method_6_code 2 = .ok (.sipush 199, 3) := by decide +kernel
theorem d262_5 : decode prog_13_method_6_code 5 = .ok (.invokestatic 91, 3) := by decide +kernel
theorem k262_91_99 : xCa (xMo 262) 91 99 = some (0, 232, 3) := by decide +kernel
theorem d262_8 : decode prog_13_method_6_code 8 = .ok (.ireturn, 1) := by decide +kernel
set_option maxRecDepth 100000 in
theorem q263 : xMc 263 = prog_13_method_4_code := rfl
theorem m263 : xMl 263 = 2 ∧ xMret 263 = (some FieldType.boolean) ∧ xMh 263 = [] := by decide +kernel
theorem e263 {X : xX} {d : Nat} {w : xH} {Q : xO → xH → Prop} (a : Nat) (x0 : Int32) : Cw X d 263 [.ref a, .int x0] w Q = Wx X d 263 0 [some (.ref a), some (.int x0)] [] w Q := by
  unfold Cw
  rw [m263.1]
  rfl
theorem d263_0 : decode prog_13_method_4_code 0 = .ok (.aload_n 0, 1) := by decide +kernel
theorem d263_1 : decode prog_13_method_4_code 1 = .ok (.iload_n 1, 1) := by decide +kernel
theorem d263_2 : decode prog_13_method_4_code 2 = .ok (.ifCond .eq 7, 3) := by decide +kernel
theorem d263_5 : decode prog_13_method_4_code 5 = .ok (.iconst 0, 1) := by decide +kernel
theorem d263_6 : decode prog_13_method_4_code 6 = .ok (.goto 4, 3) := by decide +kernel
theorem d263_9 : decode prog_13_method_4_code 9 = .ok (.iconst 1, 1) := by decide +kernel
theorem d263_10 : decode prog_13_method_4_code 10 = .ok (.putfield 87, 3) := by decide +kernel
theorem f263_87 : xFd (xMo 263) 87 = some (11, 11) := by decide +kernel
theorem d263_13 : decode prog_13_method_4_code 13 = .ok (.iload_n 1, 1) := by decide +kernel
theorem d263_14 : decode prog_13_method_4_code 14 = .ok (.ireturn, 1) := by decide +kernel
set_option maxRecDepth 100000 in
theorem q264 : xMc 264 = prog_13_method_10_code := rfl
theorem m264 : xMl 264 = 1 ∧ xMret 264 = none ∧ xMh 264 = [] := by decide +kernel
theorem e264 {X : xX} {d : Nat} {w : xH} {Q : xO → xH → Prop} (a : Nat) : Cw X d 264 [.ref a] w Q = Wx X d 264 0 [some (.ref a)] [] w Q := by
  unfold Cw
  rw [m264.1]
  rfl
theorem d264_0 : decode prog_13_method_10_code 0 = .ok (.aload_n 0, 1) := by decide +kernel
theorem d264_1 : decode prog_13_method_10_code 1 = .ok (.getfield 99, 3) := by decide +kernel
theorem f264_99 : xFd (xMo 264) 99 = some (11, 8) := by decide +kernel
theorem d264_4 : decode prog_13_method_10_code 4 = .ok (.iconst 4, 1) := by decide +kernel
theorem d264_5 : decode prog_13_method_10_code 5 = .ok (.if_icmp .ne 25, 3) := by decide +kernel
theorem d264_8 : decode prog_13_method_10_code 8 = .ok (.aload_n 0, 1) := by decide +kernel
theorem d264_9 : decode prog_13_method_10_code 9 = .ok (.aload_n 0, 1) := by decide +kernel
theorem d264_10 : decode prog_13_method_10_code 10 = .ok (.getfield 102, 3) := by decide +kernel
theorem f264_102 : xFd (xMo 264) 102 = some (11, 7) := by decide +kernel
theorem d264_13 : decode prog_13_method_10_code 13 = .ok (.iconst 1, 1) := by decide +kernel
theorem d264_14 : decode prog_13_method_10_code 14 = .ok (.iadd, 1) := by decide +kernel
theorem d264_15 : decode prog_13_method_10_code 15 = .ok (.iconst 4, 1) := by decide +kernel
theorem d264_16 : decode prog_13_method_10_code 16 = .ok (.irem, 1) := by decide +kernel
theorem d264_17 : decode prog_13_method_10_code 17 = .ok (.putfield 102, 3) := by decide +kernel
theorem d264_20 : decode prog_13_method_10_code 20 = .ok (.aload_n 0, 1) := by decide +kernel
theorem d264_21 : decode prog_13_method_10_code 21 = .ok (.dup, 1) := by decide +kernel
theorem d264_22 : decode prog_13_method_10_code 22 = .ok (.getfield 99, 3) := by decide +kernel
theorem d264_25 : decode prog_13_method_10_code 25 = .ok (.iconst 1, 1) := by decide +kernel
theorem d264_26 : decode prog_13_method_10_code 26 = .ok (.isub, 1) := by decide +kernel
theorem d264_27 : decode prog_13_method_10_code 27 = .ok (.putfield 99, 3) := by decide +kernel
theorem d264_30 : decode prog_13_method_10_code 30 = .ok (.aload_n 0, 1) := by decide +kernel
theorem d264_31 : decode prog_13_method_10_code 31 = .ok (.aload_n 0, 1) := by decide +kernel
theorem d264_32 : decode prog_13_method_10_code 32 = .ok (.getfield 102, 3) := by decide +kernel
theorem d264_35 : decode prog_13_method_10_code 35 = .ok (.aload_n 0, 1) := by decide +kernel
theorem d264_36 : decode prog_13_method_10_code 36 = .ok (.getfield 99, 3) := by decide +kernel
theorem d264_39 : decode prog_13_method_10_code 39 = .ok (.iadd, 1) := by decide +kernel
theorem d264_40 : decode prog_13_method_10_code 40 = .ok (.iconst 4, 1) := by decide +kernel
theorem d264_41 : decode prog_13_method_10_code 41 = .ok (.irem, 1) := by decide +kernel
theorem d264_42 : decode prog_13_method_10_code 42 = .ok (.invokevirtual 105, 3) := by decide +kernel
theorem k264_105_11 : xCa (xMo 264) 105 11 = some (1, 265, 1) := by decide +kernel
theorem n264_105 : xcn (xMo 264) 105 = some 1 := by decide +kernel
theorem d264_45 : decode prog_13_method_10_code 45 = .ok (.aload_n 0, 1) := by decide +kernel
theorem d264_46 : decode prog_13_method_10_code 46 = .ok (.dup, 1) := by decide +kernel
theorem d264_47 : decode prog_13_method_10_code 47 = .ok (.getfield 99, 3) := by decide +kernel
theorem d264_50 : decode prog_13_method_10_code 50 = .ok (.iconst 1, 1) := by decide +kernel
theorem d264_51 : decode prog_13_method_10_code 51 = .ok (.iadd, 1) := by decide +kernel
theorem d264_52 : decode prog_13_method_10_code 52 = .ok (.putfield 99, 3) := by decide +kernel
theorem d264_55 : decode prog_13_method_10_code 55 = .ok (.return_, 1) := by decide +kernel
set_option maxRecDepth 100000 in
theorem q265 : xMc 265 = prog_13_method_8_code := rfl
theorem m265 : xMl 265 = 2 ∧ xMret 265 = none ∧ xMh 265 = [] := by decide +kernel
theorem e265 {X : xX} {d : Nat} {w : xH} {Q : xO → xH → Prop} (a : Nat) (x0 : Int32) : Cw X d 265 [.ref a, .int x0] w Q = Wx X d 265 0 [some (.ref a), some (.int x0)] [] w Q := by
  unfold Cw
  rw [m265.1]
  rfl
theorem d265_0 : decode prog_13_method_8_code 0 = .ok (.iload_n 1, 1) := by decide +kernel
theorem d265_1 : decode prog_13_method_8_code 1 = .ok (.tableswitch 69 0 2 #[27, 41, 55], 27) := by decide +kernel
theorem d265_28 : decode prog_13_method_8_code 28 = .ok (.aload_n 0, 1) := by decide +kernel
theorem d265_29 : decode prog_13_method_8_code 29 = .ok (.getfield 7, 3) := by decide +kernel
theorem f265_7 : xFd (xMo 265) 7 = some (11, 0) := by decide +kernel
theorem d265_32 : decode prog_13_method_8_code 32 = .ok (.aload_n 0, 1) := by decide +kernel
theorem d265_33 : decode prog_13_method_8_code 33 = .ok (.getfield 16, 3) := by decide +kernel
theorem f265_16 : xFd (xMo 265) 16 = some (11, 3) := by decide +kernel
theorem d265_36 : decode prog_13_method_8_code 36 = .ok (.invokestatic 95, 3) := by decide +kernel
theorem k265_95_99 : xCa (xMo 265) 95 99 = some (0, 266, 2) := by decide +kernel
theorem d265_39 : decode prog_13_method_8_code 39 = .ok (.goto 42, 3) := by decide +kernel
theorem d265_42 : decode prog_13_method_8_code 42 = .ok (.aload_n 0, 1) := by decide +kernel
theorem d265_43 : decode prog_13_method_8_code 43 = .ok (.getfield 7, 3) := by decide +kernel
theorem d265_46 : decode prog_13_method_8_code 46 = .ok (.aload_n 0, 1) := by decide +kernel
theorem d265_47 : decode prog_13_method_8_code 47 = .ok (.getfield 19, 3) := by decide +kernel
theorem f265_19 : xFd (xMo 265) 19 = some (11, 4) := by decide +kernel
theorem d265_50 : decode prog_13_method_8_code 50 = .ok (.invokestatic 95, 3) := by decide +kernel
theorem d265_53 : decode prog_13_method_8_code 53 = .ok (.goto 28, 3) := by decide +kernel
theorem d265_56 : decode prog_13_method_8_code 56 = .ok (.aload_n 0, 1) := by decide +kernel
theorem d265_57 : decode prog_13_method_8_code 57 = .ok (.getfield 7, 3) := by decide +kernel
theorem d265_60 : decode prog_13_method_8_code 60 = .ok (.aload_n 0, 1) := by decide +kernel
theorem d265_61 : decode prog_13_method_8_code 61 = .ok (.getfield 22, 3) := by decide +kernel
theorem f265_22 : xFd (xMo 265) 22 = some (11, 5) := by decide +kernel
theorem d265_64 : decode prog_13_method_8_code 64 = .ok (.invokestatic 95, 3) := by decide +kernel
theorem d265_67 : decode prog_13_method_8_code 67 = .ok (.goto 14, 3) := by decide +kernel
theorem d265_70 : decode prog_13_method_8_code 70 = .ok (.aload_n 0, 1) := by decide +kernel
theorem d265_71 : decode prog_13_method_8_code 71 = .ok (.getfield 7, 3) := by decide +kernel
theorem d265_74 : decode prog_13_method_8_code 74 = .ok (.aload_n 0, 1) := by decide +kernel
theorem d265_75 : decode prog_13_method_8_code 75 = .ok (.getfield 25, 3) := by decide +kernel
theorem f265_25 : xFd (xMo 265) 25 = some (11, 6) := by decide +kernel
theorem d265_78 : decode prog_13_method_8_code 78 = .ok (.invokestatic 95, 3) := by decide +kernel
theorem d265_81 : decode prog_13_method_8_code 81 = .ok (.return_, 1) := by decide +kernel
set_option maxRecDepth 100000 in
theorem q266 : xMc 266 = prog_13_method_7_code := rfl
theorem m266 : xMl 266 = 3 ∧ xMret 266 = none ∧ xMh 266 = [] := by decide +kernel
theorem e266 {X : xX} {d : Nat} {w : xH} {Q : xO → xH → Prop} (x0 : Nat) (x1 : Nat) : Cw X d 266 [.ref x0, .ref x1] w Q = Wx X d 266 0 [some (.ref x0), some (.ref x1), none] [] w Q := by
  unfold Cw
  rw [m266.1]
  rfl
theorem d266_0 : decode prog_13_method_7_code 0 = .ok (.iconst 0, 1) := by decide +kernel
theorem d266_1 : decode prog_13_method_7_code 1 = .ok (.istore_n 2, 1) := by decide +kernel
theorem d266_2 : decode prog_13_method_7_code 2 = .ok (.iload_n 2, 1) := by decide +kernel
theorem d266_3 : decode prog_13_method_7_code 3 = .ok (.sipush 12602, 3) := by decide +kernel
theorem d266_6 : decode prog_13_method_7_code 6 = .ok (.if_icmp .ge 15, 3) := by decide +kernel
theorem d266_9 : decode prog_13_method_7_code 9 = .ok (.aload_n 1, 1) := by decide +kernel
theorem d266_10 : decode prog_13_method_7_code 10 = .ok (.iload_n 2, 1) := by decide +kernel
theorem d266_11 : decode prog_13_method_7_code 11 = .ok (.aload_n 0, 1) := by decide +kernel
theorem d266_12 : decode prog_13_method_7_code 12 = .ok (.iload_n 2, 1) := by decide +kernel
theorem d266_13 : decode prog_13_method_7_code 13 = .ok (.iaload, 1) := by decide +kernel
theorem d266_14 : decode prog_13_method_7_code 14 = .ok (.iastore, 1) := by decide +kernel
theorem d266_15 : decode prog_13_method_7_code 15 = .ok (.iinc 2 1, 3) := by decide +kernel
theorem d266_18 : decode prog_13_method_7_code 18 = .ok (.goto (-16), 3) := by decide +kernel
theorem d266_21 : decode prog_13_method_7_code 21 = .ok (.return_, 1) := by decide +kernel
set_option maxRecDepth 100000 in
theorem q267 : xMc 267 = prog_13_method_81_code := rfl
theorem m267 : xMl 267 = 3 ∧ xMret 267 = none ∧ xMh 267 = [] := by decide +kernel
theorem e267 {X : xX} {d : Nat} {w : xH} {Q : xO → xH → Prop} (a : Nat) (x0 : Int32) : Cw X d 267 [.ref a, .int x0] w Q = Wx X d 267 0 [some (.ref a), some (.int x0), none] [] w Q := by
  unfold Cw
  rw [m267.1]
  rfl
theorem d267_0 : decode prog_13_method_81_code 0 = .ok (.aload_n 0, 1) := by decide +kernel
theorem d267_1 : decode prog_13_method_81_code 1 = .ok (.iload_n 1, 1) := by decide +kernel
theorem d267_2 : decode prog_13_method_81_code 2 = .ok (.invokevirtual 379, 3) := by decide +kernel
theorem k267_379_11 : xCa (xMo 267) 379 11 = some (1, 268, 1) := by decide +kernel
theorem n267_379 : xcn (xMo 267) 379 = some 1 := by decide +kernel
theorem d267_5 : decode prog_13_method_81_code 5 = .ok (.aload_n 0, 1) := by decide +kernel
theorem d267_6 : decode prog_13_method_81_code 6 = .ok (.getfield 7, 3) := by decide +kernel
theorem f267_7 : xFd (xMo 267) 7 = some (11, 0) := by decide +kernel
theorem d267_9 : decode prog_13_method_81_code 9 = .ok (.iload_n 1, 1) := by decide +kernel
theorem d267_10 : decode prog_13_method_81_code 10 = .ok (.aload_n 0, 1) := by decide +kernel
theorem d267_11 : decode prog_13_method_81_code 11 = .ok (.getfield 358, 3) := by decide +kernel
theorem f267_358 : xFd (xMo 267) 358 = some (11, 33) := by decide +kernel
theorem d267_14 : decode prog_13_method_81_code 14 = .ok (.iastore, 1) := by decide +kernel
theorem d267_15 : decode prog_13_method_81_code 15 = .ok (.aload_n 0, 1) := by decide +kernel
theorem d267_16 : decode prog_13_method_81_code 16 = .ok (.getfield 7, 3) := by decide +kernel
theorem d267_19 : decode prog_13_method_81_code 19 = .ok (.sipush 200, 3) := by decide +kernel
theorem d267_22 : decode prog_13_method_81_code 22 = .ok (.iload_n 1, 1) := by decide +kernel
theorem d267_23 : decode prog_13_method_81_code 23 = .ok (.iadd, 1) := by decide +kernel
theorem d267_24 : decode prog_13_method_81_code 24 = .ok (.aload_n 0, 1) := by decide +kernel
theorem d267_25 : decode prog_13_method_81_code 25 = .ok (.getfield 358, 3) := by decide +kernel
theorem d267_28 : decode prog_13_method_81_code 28 = .ok (.iconst 1, 1) := by decide +kernel
theorem d267_29 : decode prog_13_method_81_code 29 = .ok (.if_icmp .ne 10, 3) := by decide +kernel
theorem d267_32 : decode prog_13_method_81_code 32 = .ok (.aload_n 0, 1) := by decide +kernel
theorem d267_33 : decode prog_13_method_81_code 33 = .ok (.getfield 364, 3) := by decide +kernel
theorem f267_364 : xFd (xMo 267) 364 = some (11, 34) := by decide +kernel
theorem d267_36 : decode prog_13_method_81_code 36 = .ok (.goto 4, 3) := by decide +kernel
theorem d267_39 : decode prog_13_method_81_code 39 = .ok (.iconst 0, 1) := by decide +kernel
theorem d267_40 : decode prog_13_method_81_code 40 = .ok (.iastore, 1) := by decide +kernel
theorem d267_41 : decode prog_13_method_81_code 41 = .ok (.aload_n 0, 1) := by decide +kernel
theorem d267_42 : decode prog_13_method_81_code 42 = .ok (.getfield 7, 3) := by decide +kernel
theorem d267_45 : decode prog_13_method_81_code 45 = .ok (.sipush 400, 3) := by decide +kernel
theorem d267_48 : decode prog_13_method_81_code 48 = .ok (.iload_n 1, 1) := by decide +kernel
theorem d267_49 : decode prog_13_method_81_code 49 = .ok (.iadd, 1) := by decide +kernel
theorem d267_50 : decode prog_13_method_81_code 50 = .ok (.aload_n 0, 1) := by decide +kernel
theorem d267_51 : decode prog_13_method_81_code 51 = .ok (.getfield 358, 3) := by decide +kernel
theorem d267_54 : decode prog_13_method_81_code 54 = .ok (.iconst 2, 1) := by decide +kernel
theorem d267_55 : decode prog_13_method_81_code 55 = .ok (.if_icmp .ne 10, 3) := by decide +kernel
theorem d267_58 : decode prog_13_method_81_code 58 = .ok (.aload_n 0, 1) := by decide +kernel
theorem d267_59 : decode prog_13_method_81_code 59 = .ok (.getfield 285, 3) := by decide +kernel
theorem f267_285 : xFd (xMo 267) 285 = some (11, 32) := by decide +kernel
theorem d267_62 : decode prog_13_method_81_code 62 = .ok (.goto 4, 3) := by decide +kernel
theorem d267_65 : decode prog_13_method_81_code 65 = .ok (.iconst 0, 1) := by decide +kernel
theorem d267_66 : decode prog_13_method_81_code 66 = .ok (.iastore, 1) := by decide +kernel
theorem d267_67 : decode prog_13_method_81_code 67 = .ok (.iconst 0, 1) := by decide +kernel
theorem d267_68 : decode prog_13_method_81_code 68 = .ok (.istore_n 2, 1) := by decide +kernel
theorem d267_69 : decode prog_13_method_81_code 69 = .ok (.iload_n 2, 1) := by decide +kernel
theorem d267_70 : decode prog_13_method_81_code 70 = .ok (.aload_n 0, 1) := by decide +kernel
theorem d267_71 : decode prog_13_method_81_code 71 = .ok (.getfield 7, 3) := by decide +kernel
theorem d267_74 : decode prog_13_method_81_code 74 = .ok (.sipush 400, 3) := by decide +kernel
theorem d267_77 : decode prog_13_method_81_code 77 = .ok (.iload_n 1, 1) := by decide +kernel
theorem d267_78 : decode prog_13_method_81_code 78 = .ok (.iadd, 1) := by decide +kernel
theorem d267_79 : decode prog_13_method_81_code 79 = .ok (.iaload, 1) := by decide +kernel
theorem d267_80 : decode prog_13_method_81_code 80 = .ok (.if_icmp .ge 21, 3) := by decide +kernel
theorem d267_83 : decode prog_13_method_81_code 83 = .ok (.aload_n 0, 1) := by decide +kernel
theorem d267_84 : decode prog_13_method_81_code 84 = .ok (.iload_n 1, 1) := by decide +kernel
theorem d267_85 : decode prog_13_method_81_code 85 = .ok (.iload_n 2, 1) := by decide +kernel
theorem d267_86 : decode prog_13_method_81_code 86 = .ok (.aload_n 0, 1) := by decide +kernel
theorem d267_87 : decode prog_13_method_81_code 87 = .ok (.getfield 71, 3) := by decide +kernel
theorem f267_71 : xFd (xMo 267) 71 = some (11, 31) := by decide +kernel
theorem d267_90 : decode prog_13_method_81_code 90 = .ok (.iload_n 2, 1) := by decide +kernel
theorem d267_91 : decode prog_13_method_81_code 91 = .ok (.iaload, 1) := by decide +kernel
theorem d267_92 : decode prog_13_method_81_code 92 = .ok (.invokevirtual 119, 3) := by decide +kernel
theorem k267_119_11 : xCa (xMo 267) 119 11 = some (1, 269, 3) := by decide +kernel
theorem n267_119 : xcn (xMo 267) 119 = some 3 := by decide +kernel
theorem d267_95 : decode prog_13_method_81_code 95 = .ok (.iinc 2 1, 3) := by decide +kernel
theorem d267_98 : decode prog_13_method_81_code 98 = .ok (.goto (-29), 3) := by decide +kernel
theorem d267_101 : decode prog_13_method_81_code 101 = .ok (.return_, 1) := by decide +kernel
set_option maxRecDepth 100000 in
theorem q268 : xMc 268 = prog_13_method_17_code := rfl
theorem m268 : xMl 268 = 3 ∧ xMret 268 = none ∧ xMh 268 = [] := by decide +kernel
theorem e268 {X : xX} {d : Nat} {w : xH} {Q : xO → xH → Prop} (a : Nat) (x0 : Int32) : Cw X d 268 [.ref a, .int x0] w Q = Wx X d 268 0 [some (.ref a), some (.int x0), none] [] w Q := by
  unfold Cw
  rw [m268.1]
  rfl
theorem d268_0 : decode prog_13_method_17_code 0 = .ok (.aload_n 0, 1) := by decide +kernel
theorem d268_1 : decode prog_13_method_17_code 1 = .ok (.getfield 7, 3) := by decide +kernel
theorem f268_7 : xFd (xMo 268) 7 = some (11, 0) := by decide +kernel
theorem d268_4 : decode prog_13_method_17_code 4 = .ok (.iload_n 1, 1) := by decide +kernel
theorem d268_5 : decode prog_13_method_17_code 5 = .ok (.iconst 0, 1) := by decide +kernel
theorem d268_6 : decode prog_13_method_17_code 6 = .ok (.iastore, 1) := by decide +kernel
theorem d268_7 : decode prog_13_method_17_code 7 = .ok (.aload_n 0, 1) := by decide +kernel
theorem d268_8 : decode prog_13_method_17_code 8 = .ok (.getfield 7, 3) := by decide +kernel
theorem d268_11 : decode prog_13_method_17_code 11 = .ok (.sipush 200, 3) := by decide +kernel
theorem d268_14 : decode prog_13_method_17_code 14 = .ok (.iload_n 1, 1) := by decide +kernel
theorem d268_15 : decode prog_13_method_17_code 15 = .ok (.iadd, 1) := by decide +kernel
theorem d268_16 : decode prog_13_method_17_code 16 = .ok (.iconst 0, 1) := by decide +kernel
theorem d268_17 : decode prog_13_method_17_code 17 = .ok (.iastore, 1) := by decide +kernel
theorem d268_18 : decode prog_13_method_17_code 18 = .ok (.aload_n 0, 1) := by decide +kernel
theorem d268_19 : decode prog_13_method_17_code 19 = .ok (.getfield 7, 3) := by decide +kernel
theorem d268_22 : decode prog_13_method_17_code 22 = .ok (.sipush 400, 3) := by decide +kernel
theorem d268_25 : decode prog_13_method_17_code 25 = .ok (.iload_n 1, 1) := by decide +kernel
theorem d268_26 : decode prog_13_method_17_code 26 = .ok (.iadd, 1) := by decide +kernel
theorem d268_27 : decode prog_13_method_17_code 27 = .ok (.iconst 0, 1) := by decide +kernel
theorem d268_28 : decode prog_13_method_17_code 28 = .ok (.iastore, 1) := by decide +kernel
theorem d268_29 : decode prog_13_method_17_code 29 = .ok (.iconst 0, 1) := by decide +kernel
theorem d268_30 : decode prog_13_method_17_code 30 = .ok (.istore_n 2, 1) := by decide +kernel
theorem d268_31 : decode prog_13_method_17_code 31 = .ok (.iload_n 2, 1) := by decide +kernel
theorem d268_32 : decode prog_13_method_17_code 32 = .ok (.bipush 60, 2) := by decide +kernel
theorem d268_34 : decode prog_13_method_17_code 34 = .ok (.if_icmp .ge 16, 3) := by decide +kernel
theorem d268_37 : decode prog_13_method_17_code 37 = .ok (.aload_n 0, 1) := by decide +kernel
theorem d268_38 : decode prog_13_method_17_code 38 = .ok (.iload_n 1, 1) := by decide +kernel
theorem d268_39 : decode prog_13_method_17_code 39 = .ok (.iload_n 2, 1) := by decide +kernel
theorem d268_40 : decode prog_13_method_17_code 40 = .ok (.iconst 0, 1) := by decide +kernel
theorem d268_41 : decode prog_13_method_17_code 41 = .ok (.invokevirtual 119, 3) := by decide +kernel
theorem k268_119_11 : xCa (xMo 268) 119 11 = some (1, 269, 3) := by decide +kernel
theorem n268_119 : xcn (xMo 268) 119 = some 3 := by decide +kernel
theorem d268_44 : decode prog_13_method_17_code 44 = .ok (.iinc 2 1, 3) := by decide +kernel
theorem d268_47 : decode prog_13_method_17_code 47 = .ok (.goto (-16), 3) := by decide +kernel
theorem d268_50 : decode prog_13_method_17_code 50 = .ok (.return_, 1) := by decide +kernel
set_option maxRecDepth 100000 in
theorem q269 : xMc 269 = prog_13_method_13_code := rfl
theorem m269 : xMl 269 = 4 ∧ xMret 269 = none ∧ xMh 269 = [] := by decide +kernel
theorem e269 {X : xX} {d : Nat} {w : xH} {Q : xO → xH → Prop} (a : Nat) (x0 : Int32) (x1 : Int32) (x2 : Int32) : Cw X d 269 [.ref a, .int x0, .int x1, .int x2] w Q = Wx X d 269 0 [some (.ref a), some (.int x0), some (.int x1), some (.int x2)] [] w Q := by
  unfold Cw
  rw [m269.1]
  rfl
theorem d269_0 : decode prog_13_method_13_code 0 = .ok (.aload_n 0, 1) := by decide +kernel
theorem d269_1 : decode prog_13_method_13_code 1 = .ok (.getfield 7, 3) := by decide +kernel
theorem f269_7 : xFd (xMo 269) 7 = some (11, 0) := by decide +kernel
theorem d269_4 : decode prog_13_method_13_code 4 = .ok (.sipush 602, 3) := by decide +kernel
theorem d269_7 : decode prog_13_method_13_code 7 = .ok (.bipush 60, 2) := by decide +kernel
theorem d269_9 : decode prog_13_method_13_code 9 = .ok (.iload_n 1, 1) := by decide +kernel
theorem d269_10 : decode prog_13_method_13_code 10 = .ok (.imul, 1) := by decide +kernel
theorem d269_11 : decode prog_13_method_13_code 11 = .ok (.iadd, 1) := by decide +kernel
theorem d269_12 : decode prog_13_method_13_code 12 = .ok (.iload_n 2, 1) := by decide +kernel
theorem d269_13 : decode prog_13_method_13_code 13 = .ok (.iadd, 1) := by decide +kernel
theorem d269_14 : decode prog_13_method_13_code 14 = .ok (.iload_n 3, 1) := by decide +kernel
theorem d269_15 : decode prog_13_method_13_code 15 = .ok (.iastore, 1) := by decide +kernel
theorem d269_16 : decode prog_13_method_13_code 16 = .ok (.return_, 1) := by decide +kernel
set_option maxRecDepth 100000 in
theorem q270 : xMc 270 = prog_13_method_55_code := rfl
theorem m270 : xMl 270 = 2 ∧ xMret 270 = (some FieldType.int) ∧ xMh 270 = [] := by decide +kernel
theorem e270 {X : xX} {d : Nat} {w : xH} {Q : xO → xH → Prop} (a : Nat) (x0 : Int32) : Cw X d 270 [.ref a, .int x0] w Q = Wx X d 270 0 [some (.ref a), some (.int x0)] [] w Q := by
  unfold Cw
  rw [m270.1]
  rfl
theorem d270_0 : decode prog_13_method_55_code 0 = .ok (.aload_n 0, 1) := by decide +kernel
theorem d270_1 : decode prog_13_method_55_code 1 = .ok (.invokevirtual 261, 3) := by decide +kernel
theorem k270_261_11 : xCa (xMo 270) 261 11 = some (1, 271, 0) := by decide +kernel
theorem n270_261 : xcn (xMo 270) 261 = some 0 := by decide +kernel
theorem d270_4 : decode prog_13_method_55_code 4 = .ok (.aload_n 0, 1) := by decide +kernel
theorem d270_5 : decode prog_13_method_55_code 5 = .ok (.iload_n 1, 1) := by decide +kernel
theorem d270_6 : decode prog_13_method_55_code 6 = .ok (.invokevirtual 264, 3) := by decide +kernel
theorem k270_264_11 : xCa (xMo 270) 264 11 = some (1, 296, 1) := by decide +kernel
theorem n270_264 : xcn (xMo 270) 264 = some 1 := by decide +kernel
theorem d270_9 : decode prog_13_method_55_code 9 = .ok (.aload_n 0, 1) := by decide +kernel
theorem d270_10 : decode prog_13_method_55_code 10 = .ok (.iload_n 1, 1) := by decide +kernel
theorem d270_11 : decode prog_13_method_55_code 11 = .ok (.iconst 2, 1) := by decide +kernel
theorem d270_12 : decode prog_13_method_55_code 12 = .ok (.invokevirtual 133, 3) := by decide +kernel
theorem k270_133_11 : xCa (xMo 270) 133 11 = some (1, 219, 2) := by decide +kernel
theorem n270_133 : xcn (xMo 270) 133 = some 2 := by decide +kernel
theorem d270_15 : decode prog_13_method_55_code 15 = .ok (.ifCond .eq 11, 3) := by decide +kernel
theorem d270_18 : decode prog_13_method_55_code 18 = .ok (.aload_n 0, 1) := by decide +kernel
theorem d270_19 : decode prog_13_method_55_code 19 = .ok (.getfield 41, 3) := by decide +kernel
theorem f270_41 : xFd (xMo 270) 41 = some (11, 15) := by decide +kernel
theorem d270_22 : decode prog_13_method_55_code 22 = .ok (.iload_n 1, 1) := by decide +kernel
theorem d270_23 : decode prog_13_method_55_code 23 = .ok (.invokestatic 243, 3) := by decide +kernel
theorem k270_243_99 : xCa (xMo 270) 243 99 = some (0, 229, 2) := by decide +kernel
theorem d270_26 : decode prog_13_method_55_code 26 = .ok (.aload_n 0, 1) := by decide +kernel
theorem d270_27 : decode prog_13_method_55_code 27 = .ok (.aload_n 0, 1) := by decide +kernel
theorem d270_28 : decode prog_13_method_55_code 28 = .ok (.getfield 41, 3) := by decide +kernel
theorem d270_31 : decode prog_13_method_55_code 31 = .ok (.invokestatic 267, 3) := by decide +kernel
theorem k270_267_99 : xCa (xMo 270) 267 99 = some (0, 298, 1) := by decide +kernel
theorem d270_34 : decode prog_13_method_55_code 34 = .ok (.invokevirtual 271, 3) := by decide +kernel
theorem k270_271_11 : xCa (xMo 270) 271 11 = some (1, 299, 1) := by decide +kernel
theorem n270_271 : xcn (xMo 270) 271 = some 1 := by decide +kernel
theorem d270_37 : decode prog_13_method_55_code 37 = .ok (.ireturn, 1) := by decide +kernel
set_option maxRecDepth 100000 in
theorem q271 : xMc 271 = prog_13_method_50_code := rfl
theorem m271 : xMl 271 = 2 ∧ xMret 271 = none ∧ xMh 271 = [] := by decide +kernel
theorem e271 {X : xX} {d : Nat} {w : xH} {Q : xO → xH → Prop} (a : Nat) : Cw X d 271 [.ref a] w Q = Wx X d 271 0 [some (.ref a), none] [] w Q := by
  unfold Cw
  rw [m271.1]
  rfl
theorem d271_0 : decode prog_13_method_50_code 0 = .ok (.aload_n 0, 1) := by decide +kernel
theorem d271_1 : decode prog_13_method_50_code 1 = .ok (.invokevirtual 84, 3) := by decide +kernel
theorem k271_84_11 : xCa (xMo 271) 84 11 = some (1, 218, 0) := by decide +kernel
theorem n271_84 : xcn (xMo 271) 84 = some 0 := by decide +kernel
theorem d271_4 : decode prog_13_method_50_code 4 = .ok (.aload_n 0, 1) := by decide +kernel
theorem d271_5 : decode prog_13_method_50_code 5 = .ok (.invokevirtual 247, 3) := by decide +kernel
theorem k271_247_11 : xCa (xMo 271) 247 11 = some (1, 272, 0) := by decide +kernel
theorem n271_247 : xcn (xMo 271) 247 = some 0 := by decide +kernel
theorem d271_8 : decode prog_13_method_50_code 8 = .ok (.istore_n 1, 1) := by decide +kernel
theorem d271_9 : decode prog_13_method_50_code 9 = .ok (.iload_n 1, 1) := by decide +kernel
theorem d271_10 : decode prog_13_method_50_code 10 = .ok (.ifCond .lt 65, 3) := by decide +kernel
theorem d271_13 : decode prog_13_method_50_code 13 = .ok (.aload_n 0, 1) := by decide +kernel
theorem d271_14 : decode prog_13_method_50_code 14 = .ok (.getfield 62, 3) := by decide +kernel
theorem f271_62 : xFd (xMo 271) 62 = some (11, 27) := by decide +kernel
theorem d271_17 : decode prog_13_method_50_code 17 = .ok (.aload_n 0, 1) := by decide +kernel
theorem d271_18 : decode prog_13_method_50_code 18 = .ok (.getfield 237, 3) := by decide +kernel
theorem f271_237 : xFd (xMo 271) 237 = some (11, 30) := by decide +kernel
theorem d271_21 : decode prog_13_method_50_code 21 = .ok (.iload_n 1, 1) := by decide +kernel
theorem d271_22 : decode prog_13_method_50_code 22 = .ok (.iastore, 1) := by decide +kernel
theorem d271_23 : decode prog_13_method_50_code 23 = .ok (.aload_n 0, 1) := by decide +kernel
theorem d271_24 : decode prog_13_method_50_code 24 = .ok (.getfield 65, 3) := by decide +kernel
theorem f271_65 : xFd (xMo 271) 65 = some (11, 28) := by decide +kernel
theorem d271_27 : decode prog_13_method_50_code 27 = .ok (.iload_n 1, 1) := by decide +kernel
theorem d271_28 : decode prog_13_method_50_code 28 = .ok (.aload_n 0, 1) := by decide +kernel
theorem d271_29 : decode prog_13_method_50_code 29 = .ok (.getfield 237, 3) := by decide +kernel
theorem d271_32 : decode prog_13_method_50_code 32 = .ok (.iastore, 1) := by decide +kernel
theorem d271_33 : decode prog_13_method_50_code 33 = .ok (.aload_n 0, 1) := by decide +kernel
theorem d271_34 : decode prog_13_method_50_code 34 = .ok (.dup, 1) := by decide +kernel
theorem d271_35 : decode prog_13_method_50_code 35 = .ok (.getfield 237, 3) := by decide +kernel
theorem d271_38 : decode prog_13_method_50_code 38 = .ok (.iconst 1, 1) := by decide +kernel
theorem d271_39 : decode prog_13_method_50_code 39 = .ok (.iadd, 1) := by decide +kernel
theorem d271_40 : decode prog_13_method_50_code 40 = .ok (.putfield 237, 3) := by decide +kernel
theorem d271_43 : decode prog_13_method_50_code 43 = .ok (.aload_n 0, 1) := by decide +kernel
theorem d271_44 : decode prog_13_method_50_code 44 = .ok (.getfield 35, 3) := by decide +kernel
theorem f271_35 : xFd (xMo 271) 35 = some (11, 13) := by decide +kernel
theorem d271_47 : decode prog_13_method_50_code 47 = .ok (.iload_n 1, 1) := by decide +kernel
theorem d271_48 : decode prog_13_method_50_code 48 = .ok (.invokestatic 243, 3) := by decide +kernel
theorem k271_243_99 : xCa (xMo 271) 243 99 = some (0, 229, 2) := by decide +kernel
theorem d271_51 : decode prog_13_method_50_code 51 = .ok (.aload_n 0, 1) := by decide +kernel
theorem d271_52 : decode prog_13_method_50_code 52 = .ok (.getfield 68, 3) := by decide +kernel
theorem f271_68 : xFd (xMo 271) 68 = some (11, 29) := by decide +kernel
theorem d271_55 : decode prog_13_method_50_code 55 = .ok (.iload_n 1, 1) := by decide +kernel
theorem d271_56 : decode prog_13_method_50_code 56 = .ok (.aload_n 0, 1) := by decide +kernel
theorem d271_57 : decode prog_13_method_50_code 57 = .ok (.iload_n 1, 1) := by decide +kernel
theorem d271_58 : decode prog_13_method_50_code 58 = .ok (.invokevirtual 251, 3) := by decide +kernel
theorem k271_251_11 : xCa (xMo 271) 251 11 = some (1, 274, 1) := by decide +kernel
theorem n271_251 : xcn (xMo 271) 251 = some 1 := by decide +kernel
theorem d271_61 : decode prog_13_method_50_code 61 = .ok (.iastore, 1) := by decide +kernel
theorem d271_62 : decode prog_13_method_50_code 62 = .ok (.aload_n 0, 1) := by decide +kernel
theorem d271_63 : decode prog_13_method_50_code 63 = .ok (.iload_n 1, 1) := by decide +kernel
theorem d271_64 : decode prog_13_method_50_code 64 = .ok (.invokevirtual 254, 3) := by decide +kernel
theorem k271_254_11 : xCa (xMo 271) 254 11 = some (1, 276, 1) := by decide +kernel
theorem n271_254 : xcn (xMo 271) 254 = some 1 := by decide +kernel
theorem d271_67 : decode prog_13_method_50_code 67 = .ok (.aload_n 0, 1) := by decide +kernel
theorem d271_68 : decode prog_13_method_50_code 68 = .ok (.invokevirtual 247, 3) := by decide +kernel
theorem d271_71 : decode prog_13_method_50_code 71 = .ok (.istore_n 1, 1) := by decide +kernel
theorem d271_72 : decode prog_13_method_50_code 72 = .ok (.goto (-63), 3) := by decide +kernel
theorem d271_75 : decode prog_13_method_50_code 75 = .ok (.return_, 1) := by decide +kernel
set_option maxRecDepth 100000 in
theorem q272 : xMc 272 = prog_13_method_47_code := rfl
theorem m272 : xMl 272 = 2 ∧ xMret 272 = (some FieldType.int) ∧ xMh 272 = [] := by decide +kernel
theorem e272 {X : xX} {d : Nat} {w : xH} {Q : xO → xH → Prop} (a : Nat) : Cw X d 272 [.ref a] w Q = Wx X d 272 0 [some (.ref a), none] [] w Q := by
  unfold Cw
  rw [m272.1]
  rfl
theorem d272_0 : decode prog_13_method_47_code 0 = .ok (.iconst 0, 1) := by decide +kernel
theorem d272_1 : decode prog_13_method_47_code 1 = .ok (.istore_n 1, 1) := by decide +kernel
theorem d272_2 : decode prog_13_method_47_code 2 = .ok (.iload_n 1, 1) := by decide +kernel
theorem d272_3 : decode prog_13_method_47_code 3 = .ok (.sipush 200, 3) := by decide +kernel
theorem d272_6 : decode prog_13_method_47_code 6 = .ok (.if_icmp .ge 17, 3) := by decide +kernel
theorem d272_9 : decode prog_13_method_47_code 9 = .ok (.aload_n 0, 1) := by decide +kernel
theorem d272_10 : decode prog_13_method_47_code 10 = .ok (.iload_n 1, 1) := by decide +kernel
theorem d272_11 : decode prog_13_method_47_code 11 = .ok (.invokevirtual 231, 3) := by decide +kernel
theorem k272_231_11 : xCa (xMo 272) 231 11 = some (1, 273, 1) := by decide +kernel
theorem n272_231 : xcn (xMo 272) 231 = some 1 := by decide +kernel
theorem d272_14 : decode prog_13_method_47_code 14 = .ok (.ifCond .ne 9, 3) := by decide +kernel
theorem d272_17 : decode prog_13_method_47_code 17 = .ok (.iinc 1 1, 3) := by decide +kernel
theorem d272_20 : decode prog_13_method_47_code 20 = .ok (.goto (-18), 3) := by decide +kernel
theorem d272_23 : decode prog_13_method_47_code 23 = .ok (.iload_n 1, 1) := by decide +kernel
theorem d272_24 : decode prog_13_method_47_code 24 = .ok (.sipush 200, 3) := by decide +kernel
theorem d272_27 : decode prog_13_method_47_code 27 = .ok (.if_icmp .ge 7, 3) := by decide +kernel
theorem d272_30 : decode prog_13_method_47_code 30 = .ok (.iload_n 1, 1) := by decide +kernel
theorem d272_31 : decode prog_13_method_47_code 31 = .ok (.goto 4, 3) := by decide +kernel
theorem d272_34 : decode prog_13_method_47_code 34 = .ok (.iconst (-1), 1) := by decide +kernel
theorem d272_35 : decode prog_13_method_47_code 35 = .ok (.ireturn, 1) := by decide +kernel
set_option maxRecDepth 100000 in
theorem q273 : xMc 273 = prog_13_method_46_code := rfl
theorem m273 : xMl 273 = 4 ∧ xMret 273 = (some FieldType.boolean) ∧ xMh 273 = [] := by decide +kernel
theorem e273 {X : xX} {d : Nat} {w : xH} {Q : xO → xH → Prop} (a : Nat) (x0 : Int32) : Cw X d 273 [.ref a, .int x0] w Q = Wx X d 273 0 [some (.ref a), some (.int x0), none, none] [] w Q := by
  unfold Cw
  rw [m273.1]
  rfl
theorem d273_0 : decode prog_13_method_46_code 0 = .ok (.aload_n 0, 1) := by decide +kernel
theorem d273_1 : decode prog_13_method_46_code 1 = .ok (.iload_n 1, 1) := by decide +kernel
theorem d273_2 : decode prog_13_method_46_code 2 = .ok (.iconst 2, 1) := by decide +kernel
theorem d273_3 : decode prog_13_method_46_code 3 = .ok (.invokevirtual 133, 3) := by decide +kernel
theorem k273_133_11 : xCa (xMo 273) 133 11 = some (1, 219, 2) := by decide +kernel
theorem n273_133 : xcn (xMo 273) 133 = some 2 := by decide +kernel
theorem d273_6 : decode prog_13_method_46_code 6 = .ok (.ifCond .eq 16, 3) := by decide +kernel
theorem d273_9 : decode prog_13_method_46_code 9 = .ok (.aload_n 0, 1) := by decide +kernel
theorem d273_10 : decode prog_13_method_46_code 10 = .ok (.getfield 65, 3) := by decide +kernel
theorem f273_65 : xFd (xMo 273) 65 = some (11, 28) := by decide +kernel
theorem d273_13 : decode prog_13_method_46_code 13 = .ok (.iload_n 1, 1) := by decide +kernel
theorem d273_14 : decode prog_13_method_46_code 14 = .ok (.iaload, 1) := by decide +kernel
theorem d273_15 : decode prog_13_method_46_code 15 = .ok (.ifCond .ge 7, 3) := by decide +kernel
theorem d273_18 : decode prog_13_method_46_code 18 = .ok (.iconst 1, 1) := by decide +kernel
theorem d273_19 : decode prog_13_method_46_code 19 = .ok (.goto 4, 3) := by decide +kernel
theorem d273_22 : decode prog_13_method_46_code 22 = .ok (.iconst 0, 1) := by decide +kernel
theorem d273_23 : decode prog_13_method_46_code 23 = .ok (.istore_n 2, 1) := by decide +kernel
theorem d273_24 : decode prog_13_method_46_code 24 = .ok (.iconst 0, 1) := by decide +kernel
theorem d273_25 : decode prog_13_method_46_code 25 = .ok (.istore_n 3, 1) := by decide +kernel
theorem d273_26 : decode prog_13_method_46_code 26 = .ok (.iload_n 3, 1) := by decide +kernel
theorem d273_27 : decode prog_13_method_46_code 27 = .ok (.iconst 4, 1) := by decide +kernel
theorem d273_28 : decode prog_13_method_46_code 28 = .ok (.if_icmp .ge 52, 3) := by decide +kernel
theorem d273_31 : decode prog_13_method_46_code 31 = .ok (.iload_n 2, 1) := by decide +kernel
theorem d273_32 : decode prog_13_method_46_code 32 = .ok (.ifCond .eq 40, 3) := by decide +kernel
theorem d273_35 : decode prog_13_method_46_code 35 = .ok (.aload_n 0, 1) := by decide +kernel
theorem d273_36 : decode prog_13_method_46_code 36 = .ok (.getfield 31, 3) := by decide +kernel
theorem f273_31 : xFd (xMo 273) 31 = some (11, 12) := by decide +kernel
theorem d273_39 : decode prog_13_method_46_code 39 = .ok (.iconst 4, 1) := by decide +kernel
theorem d273_40 : decode prog_13_method_46_code 40 = .ok (.iload_n 1, 1) := by decide +kernel
theorem d273_41 : decode prog_13_method_46_code 41 = .ok (.imul, 1) := by decide +kernel
theorem d273_42 : decode prog_13_method_46_code 42 = .ok (.iload_n 3, 1) := by decide +kernel
theorem d273_43 : decode prog_13_method_46_code 43 = .ok (.iadd, 1) := by decide +kernel
theorem d273_44 : decode prog_13_method_46_code 44 = .ok (.laload, 1) := by decide +kernel
theorem d273_45 : decode prog_13_method_46_code 45 = .ok (.aload_n 0, 1) := by decide +kernel
theorem d273_46 : decode prog_13_method_46_code 46 = .ok (.getfield 38, 3) := by decide +kernel
theorem f273_38 : xFd (xMo 273) 38 = some (11, 14) := by decide +kernel
theorem d273_49 : decode prog_13_method_46_code 49 = .ok (.iload_n 3, 1) := by decide +kernel
theorem d273_50 : decode prog_13_method_46_code 50 = .ok (.laload, 1) := by decide +kernel
theorem d273_51 : decode prog_13_method_46_code 51 = .ok (.land, 1) := by decide +kernel
theorem d273_52 : decode prog_13_method_46_code 52 = .ok (.aload_n 0, 1) := by decide +kernel
theorem d273_53 : decode prog_13_method_46_code 53 = .ok (.getfield 35, 3) := by decide +kernel
theorem f273_35 : xFd (xMo 273) 35 = some (11, 13) := by decide +kernel
theorem d273_56 : decode prog_13_method_46_code 56 = .ok (.iload_n 3, 1) := by decide +kernel
theorem d273_57 : decode prog_13_method_46_code 57 = .ok (.laload, 1) := by decide +kernel
theorem d273_58 : decode prog_13_method_46_code 58 = .ok (.ldc2_w 229, 3) := by decide +kernel
theorem d273_61 : decode prog_13_method_46_code 61 = .ok (.lxor, 1) := by decide +kernel
theorem d273_62 : decode prog_13_method_46_code 62 = .ok (.land, 1) := by decide +kernel
theorem d273_63 : decode prog_13_method_46_code 63 = .ok (.lconst 0, 1) := by decide +kernel
theorem d273_64 : decode prog_13_method_46_code 64 = .ok (.lcmp, 1) := by decide +kernel
theorem d273_65 : decode prog_13_method_46_code 65 = .ok (.ifCond .ne 7, 3) := by decide +kernel
theorem d273_68 : decode prog_13_method_46_code 68 = .ok (.iconst 1, 1) := by decide +kernel
theorem d273_69 : decode prog_13_method_46_code 69 = .ok (.goto 4, 3) := by decide +kernel
theorem d273_72 : decode prog_13_method_46_code 72 = .ok (.iconst 0, 1) := by decide +kernel
theorem d273_73 : decode prog_13_method_46_code 73 = .ok (.istore_n 2, 1) := by decide +kernel
theorem d273_74 : decode prog_13_method_46_code 74 = .ok (.iinc 3 1, 3) := by decide +kernel
theorem d273_77 : decode prog_13_method_46_code 77 = .ok (.goto (-51), 3) := by decide +kernel
theorem d273_80 : decode prog_13_method_46_code 80 = .ok (.iload_n 2, 1) := by decide +kernel
theorem d273_81 : decode prog_13_method_46_code 81 = .ok (.ireturn, 1) := by decide +kernel
set_option maxRecDepth 100000 in
theorem q274 : xMc 274 = prog_13_method_48_code := rfl
theorem m274 : xMl 274 = 5 ∧ xMret 274 = (some FieldType.int) ∧ xMh 274 = [] := by decide +kernel
theorem e274 {X : xX} {d : Nat} {w : xH} {Q : xO → xH → Prop} (a : Nat) (x0 : Int32) : Cw X d 274 [.ref a, .int x0] w Q = Wx X d 274 0 [some (.ref a), some (.int x0), none, none, none] [] w Q := by
  unfold Cw
  rw [m274.1]
  rfl
theorem d274_0 : decode prog_13_method_48_code 0 = .ok (.iconst 0, 1) := by decide +kernel
theorem d274_1 : decode prog_13_method_48_code 1 = .ok (.istore_n 2, 1) := by decide +kernel
theorem d274_2 : decode prog_13_method_48_code 2 = .ok (.iconst 0, 1) := by decide +kernel
theorem d274_3 : decode prog_13_method_48_code 3 = .ok (.istore_n 3, 1) := by decide +kernel
theorem d274_4 : decode prog_13_method_48_code 4 = .ok (.iload_n 3, 1) := by decide +kernel
theorem d274_5 : decode prog_13_method_48_code 5 = .ok (.sipush 200, 3) := by decide +kernel
theorem d274_8 : decode prog_13_method_48_code 8 = .ok (.if_icmp .ge 54, 3) := by decide +kernel
theorem d274_11 : decode prog_13_method_48_code 11 = .ok (.aload_n 0, 1) := by decide +kernel
theorem d274_12 : decode prog_13_method_48_code 12 = .ok (.iload_n 1, 1) := by decide +kernel
theorem d274_13 : decode prog_13_method_48_code 13 = .ok (.iload_n 3, 1) := by decide +kernel
theorem d274_14 : decode prog_13_method_48_code 14 = .ok (.invokevirtual 234, 3) := by decide +kernel
theorem k274_234_11 : xCa (xMo 274) 234 11 = some (1, 275, 2) := by decide +kernel
theorem n274_234 : xcn (xMo 274) 234 = some 2 := by decide +kernel
theorem d274_17 : decode prog_13_method_48_code 17 = .ok (.ifCond .eq 16, 3) := by decide +kernel
theorem d274_20 : decode prog_13_method_48_code 20 = .ok (.aload_n 0, 1) := by decide +kernel
theorem d274_21 : decode prog_13_method_48_code 21 = .ok (.iload_n 3, 1) := by decide +kernel
theorem d274_22 : decode prog_13_method_48_code 22 = .ok (.iconst 2, 1) := by decide +kernel
theorem d274_23 : decode prog_13_method_48_code 23 = .ok (.invokevirtual 133, 3) := by decide +kernel
theorem k274_133_11 : xCa (xMo 274) 133 11 = some (1, 219, 2) := by decide +kernel
theorem n274_133 : xcn (xMo 274) 133 = some 2 := by decide +kernel
theorem d274_26 : decode prog_13_method_48_code 26 = .ok (.ifCond .eq 7, 3) := by decide +kernel
theorem d274_29 : decode prog_13_method_48_code 29 = .ok (.iconst 1, 1) := by decide +kernel
theorem d274_30 : decode prog_13_method_48_code 30 = .ok (.goto 4, 3) := by decide +kernel
theorem d274_33 : decode prog_13_method_48_code 33 = .ok (.iconst 0, 1) := by decide +kernel
theorem d274_34 : decode prog_13_method_48_code 34 = .ok (.istore 4, 2) := by decide +kernel
theorem d274_36 : decode prog_13_method_48_code 36 = .ok (.iload 4, 2) := by decide +kernel
theorem d274_38 : decode prog_13_method_48_code 38 = .ok (.ifCond .eq 16, 3) := by decide +kernel
theorem d274_41 : decode prog_13_method_48_code 41 = .ok (.iload_n 2, 1) := by decide +kernel
theorem d274_42 : decode prog_13_method_48_code 42 = .ok (.aload_n 0, 1) := by decide +kernel
theorem d274_43 : decode prog_13_method_48_code 43 = .ok (.getfield 68, 3) := by decide +kernel
theorem f274_68 : xFd (xMo 274) 68 = some (11, 29) := by decide +kernel
theorem d274_46 : decode prog_13_method_48_code 46 = .ok (.iload_n 3, 1) := by decide +kernel
theorem d274_47 : decode prog_13_method_48_code 47 = .ok (.iaload, 1) := by decide +kernel
theorem d274_48 : decode prog_13_method_48_code 48 = .ok (.invokestatic 126, 3) := by decide +kernel
theorem k274_126_99 : xCa (xMo 274) 126 99 = some (0, 227, 2) := by decide +kernel
theorem d274_51 : decode prog_13_method_48_code 51 = .ok (.goto 4, 3) := by decide +kernel
theorem d274_54 : decode prog_13_method_48_code 54 = .ok (.iload_n 2, 1) := by decide +kernel
theorem d274_55 : decode prog_13_method_48_code 55 = .ok (.istore_n 2, 1) := by decide +kernel
theorem d274_56 : decode prog_13_method_48_code 56 = .ok (.iinc 3 1, 3) := by decide +kernel
theorem d274_59 : decode prog_13_method_48_code 59 = .ok (.goto (-55), 3) := by decide +kernel
theorem d274_62 : decode prog_13_method_48_code 62 = .ok (.iload_n 2, 1) := by decide +kernel
theorem d274_63 : decode prog_13_method_48_code 63 = .ok (.iconst 1, 1) := by decide +kernel
theorem d274_64 : decode prog_13_method_48_code 64 = .ok (.iadd, 1) := by decide +kernel
theorem d274_65 : decode prog_13_method_48_code 65 = .ok (.ireturn, 1) := by decide +kernel
set_option maxRecDepth 100000 in
theorem q275 : xMc 275 = prog_13_method_22_code := rfl
theorem m275 : xMl 275 = 3 ∧ xMret 275 = (some FieldType.boolean) ∧ xMh 275 = [] := by decide +kernel
theorem e275 {X : xX} {d : Nat} {w : xH} {Q : xO → xH → Prop} (a : Nat) (x0 : Int32) (x1 : Int32) : Cw X d 275 [.ref a, .int x0, .int x1] w Q = Wx X d 275 0 [some (.ref a), some (.int x0), some (.int x1)] [] w Q := by
  unfold Cw
  rw [m275.1]
  rfl
theorem d275_0 : decode prog_13_method_22_code 0 = .ok (.aload_n 0, 1) := by decide +kernel
theorem d275_1 : decode prog_13_method_22_code 1 = .ok (.getfield 31, 3) := by decide +kernel
theorem f275_31 : xFd (xMo 275) 31 = some (11, 12) := by decide +kernel
theorem d275_4 : decode prog_13_method_22_code 4 = .ok (.iconst 4, 1) := by decide +kernel
theorem d275_5 : decode prog_13_method_22_code 5 = .ok (.iload_n 1, 1) := by decide +kernel
theorem d275_6 : decode prog_13_method_22_code 6 = .ok (.imul, 1) := by decide +kernel
theorem d275_7 : decode prog_13_method_22_code 7 = .ok (.iload_n 2, 1) := by decide +kernel
theorem d275_8 : decode prog_13_method_22_code 8 = .ok (.bipush 64, 2) := by decide +kernel
theorem d275_10 : decode prog_13_method_22_code 10 = .ok (.idiv, 1) := by decide +kernel
theorem d275_11 : decode prog_13_method_22_code 11 = .ok (.iadd, 1) := by decide +kernel
theorem d275_12 : decode prog_13_method_22_code 12 = .ok (.laload, 1) := by decide +kernel
theorem d275_13 : decode prog_13_method_22_code 13 = .ok (.iload_n 2, 1) := by decide +kernel
theorem d275_14 : decode prog_13_method_22_code 14 = .ok (.bipush 64, 2) := by decide +kernel
theorem d275_16 : decode prog_13_method_22_code 16 = .ok (.irem, 1) := by decide +kernel
theorem d275_17 : decode prog_13_method_22_code 17 = .ok (.lshr, 1) := by decide +kernel
theorem d275_18 : decode prog_13_method_22_code 18 = .ok (.lconst 1, 1) := by decide +kernel
theorem d275_19 : decode prog_13_method_22_code 19 = .ok (.land, 1) := by decide +kernel
theorem d275_20 : decode prog_13_method_22_code 20 = .ok (.lconst 1, 1) := by decide +kernel
theorem d275_21 : decode prog_13_method_22_code 21 = .ok (.lcmp, 1) := by decide +kernel
theorem d275_22 : decode prog_13_method_22_code 22 = .ok (.ifCond .ne 7, 3) := by decide +kernel
theorem d275_25 : decode prog_13_method_22_code 25 = .ok (.iconst 1, 1) := by decide +kernel
theorem d275_26 : decode prog_13_method_22_code 26 = .ok (.goto 4, 3) := by decide +kernel
theorem d275_29 : decode prog_13_method_22_code 29 = .ok (.iconst 0, 1) := by decide +kernel
theorem d275_30 : decode prog_13_method_22_code 30 = .ok (.ireturn, 1) := by decide +kernel
set_option maxRecDepth 100000 in
theorem q276 : xMc 276 = prog_13_method_45_code := rfl
theorem m276 : xMl 276 = 2 ∧ xMret 276 = none ∧ xMh 276 = [] := by decide +kernel
theorem e276 {X : xX} {d : Nat} {w : xH} {Q : xO → xH → Prop} (a : Nat) (x0 : Int32) : Cw X d 276 [.ref a, .int x0] w Q = Wx X d 276 0 [some (.ref a), some (.int x0)] [] w Q := by
  unfold Cw
  rw [m276.1]
  rfl
theorem d276_0 : decode prog_13_method_45_code 0 = .ok (.aload_n 0, 1) := by decide +kernel
theorem d276_1 : decode prog_13_method_45_code 1 = .ok (.iconst 0, 1) := by decide +kernel
theorem d276_2 : decode prog_13_method_45_code 2 = .ok (.putfield 154, 3) := by decide +kernel
theorem f276_154 : xFd (xMo 276) 154 = some (11, 22) := by decide +kernel
theorem d276_5 : decode prog_13_method_45_code 5 = .ok (.aload_n 0, 1) := by decide +kernel
theorem d276_6 : decode prog_13_method_45_code 6 = .ok (.iconst 0, 1) := by decide +kernel
theorem d276_7 : decode prog_13_method_45_code 7 = .ok (.putfield 157, 3) := by decide +kernel
theorem f276_157 : xFd (xMo 276) 157 = some (11, 23) := by decide +kernel
theorem d276_10 : decode prog_13_method_45_code 10 = .ok (.aload_n 0, 1) := by decide +kernel
theorem d276_11 : decode prog_13_method_45_code 11 = .ok (.iconst 0, 1) := by decide +kernel
theorem d276_12 : decode prog_13_method_45_code 12 = .ok (.putfield 151, 3) := by decide +kernel
theorem f276_151 : xFd (xMo 276) 151 = some (11, 24) := by decide +kernel
theorem d276_15 : decode prog_13_method_45_code 15 = .ok (.aload_n 0, 1) := by decide +kernel
theorem d276_16 : decode prog_13_method_45_code 16 = .ok (.iconst 0, 1) := by decide +kernel
theorem d276_17 : decode prog_13_method_45_code 17 = .ok (.putfield 188, 3) := by decide +kernel
theorem f276_188 : xFd (xMo 276) 188 = some (11, 25) := by decide +kernel
theorem d276_20 : decode prog_13_method_45_code 20 = .ok (.aload_n 0, 1) := by decide +kernel
theorem d276_21 : decode prog_13_method_45_code 21 = .ok (.iconst 1, 1) := by decide +kernel
theorem d276_22 : decode prog_13_method_45_code 22 = .ok (.putfield 200, 3) := by decide +kernel
theorem f276_200 : xFd (xMo 276) 200 = some (11, 26) := by decide +kernel
theorem d276_25 : decode prog_13_method_45_code 25 = .ok (.aload_n 0, 1) := by decide +kernel
theorem d276_26 : decode prog_13_method_45_code 26 = .ok (.getfield 151, 3) := by decide +kernel
theorem d276_29 : decode prog_13_method_45_code 29 = .ok (.ifCond .ne 43, 3) := by decide +kernel
theorem d276_32 : decode prog_13_method_45_code 32 = .ok (.aload_n 0, 1) := by decide +kernel
theorem d276_33 : decode prog_13_method_45_code 33 = .ok (.getfield 188, 3) := by decide +kernel
theorem d276_36 : decode prog_13_method_45_code 36 = .ok (.aload_n 0, 1) := by decide +kernel
theorem d276_37 : decode prog_13_method_45_code 37 = .ok (.getfield 7, 3) := by decide +kernel
theorem f276_7 : xFd (xMo 276) 7 = some (11, 0) := by decide +kernel
theorem d276_40 : decode prog_13_method_45_code 40 = .ok (.sipush 400, 3) := by decide +kernel
theorem d276_43 : decode prog_13_method_45_code 43 = .ok (.iload_n 1, 1) := by decide +kernel
theorem d276_44 : decode prog_13_method_45_code 44 = .ok (.iadd, 1) := by decide +kernel
theorem d276_45 : decode prog_13_method_45_code 45 = .ok (.iaload, 1) := by decide +kernel
theorem d276_46 : decode prog_13_method_45_code 46 = .ok (.if_icmp .ge 26, 3) := by decide +kernel
theorem d276_49 : decode prog_13_method_45_code 49 = .ok (.aload_n 0, 1) := by decide +kernel
theorem d276_50 : decode prog_13_method_45_code 50 = .ok (.getfield 200, 3) := by decide +kernel
theorem d276_53 : decode prog_13_method_45_code 53 = .ok (.ifCond .eq 11, 3) := by decide +kernel
theorem d276_56 : decode prog_13_method_45_code 56 = .ok (.aload_n 0, 1) := by decide +kernel
theorem d276_57 : decode prog_13_method_45_code 57 = .ok (.iload_n 1, 1) := by decide +kernel
theorem d276_58 : decode prog_13_method_45_code 58 = .ok (.invokevirtual 223, 3) := by decide +kernel
theorem k276_223_11 : xCa (xMo 276) 223 11 = some (1, 277, 1) := by decide +kernel
theorem n276_223 : xcn (xMo 276) 223 = some 1 := by decide +kernel
theorem d276_61 : decode prog_13_method_45_code 61 = .ok (.goto (-36), 3) := by decide +kernel
theorem d276_64 : decode prog_13_method_45_code 64 = .ok (.aload_n 0, 1) := by decide +kernel
theorem d276_65 : decode prog_13_method_45_code 65 = .ok (.iload_n 1, 1) := by decide +kernel
theorem d276_66 : decode prog_13_method_45_code 66 = .ok (.invokevirtual 226, 3) := by decide +kernel
theorem k276_226_11 : xCa (xMo 276) 226 11 = some (1, 284, 1) := by decide +kernel
theorem n276_226 : xcn (xMo 276) 226 = some 1 := by decide +kernel
theorem d276_69 : decode prog_13_method_45_code 69 = .ok (.goto (-44), 3) := by decide +kernel
theorem d276_72 : decode prog_13_method_45_code 72 = .ok (.aload_n 0, 1) := by decide +kernel
theorem d276_73 : decode prog_13_method_45_code 73 = .ok (.iconst 1, 1) := by decide +kernel
theorem d276_74 : decode prog_13_method_45_code 74 = .ok (.invokevirtual 211, 3) := by decide +kernel
theorem k276_211_11 : xCa (xMo 276) 211 11 = some (1, 285, 1) := by decide +kernel
theorem n276_211 : xcn (xMo 276) 211 = some 1 := by decide +kernel
theorem d276_77 : decode prog_13_method_45_code 77 = .ok (.aload_n 0, 1) := by decide +kernel
theorem d276_78 : decode prog_13_method_45_code 78 = .ok (.getfield 47, 3) := by decide +kernel
theorem f276_47 : xFd (xMo 276) 47 = some (11, 17) := by decide +kernel
theorem d276_81 : decode prog_13_method_45_code 81 = .ok (.iload_n 1, 1) := by decide +kernel
theorem d276_82 : decode prog_13_method_45_code 82 = .ok (.aload_n 0, 1) := by decide +kernel
theorem d276_83 : decode prog_13_method_45_code 83 = .ok (.getfield 151, 3) := by decide +kernel
theorem d276_86 : decode prog_13_method_45_code 86 = .ok (.iastore, 1) := by decide +kernel
theorem d276_87 : decode prog_13_method_45_code 87 = .ok (.aload_n 0, 1) := by decide +kernel
theorem d276_88 : decode prog_13_method_45_code 88 = .ok (.getfield 44, 3) := by decide +kernel
theorem f276_44 : xFd (xMo 276) 44 = some (11, 16) := by decide +kernel
theorem d276_91 : decode prog_13_method_45_code 91 = .ok (.iload_n 1, 1) := by decide +kernel
theorem d276_92 : decode prog_13_method_45_code 92 = .ok (.aload_n 0, 1) := by decide +kernel
theorem d276_93 : decode prog_13_method_45_code 93 = .ok (.getfield 151, 3) := by decide +kernel
theorem d276_96 : decode prog_13_method_45_code 96 = .ok (.ifCond .le 7, 3) := by decide +kernel
theorem d276_99 : decode prog_13_method_45_code 99 = .ok (.iconst 0, 1) := by decide +kernel
theorem d276_100 : decode prog_13_method_45_code 100 = .ok (.goto 10, 3) := by decide +kernel
theorem d276_103 : decode prog_13_method_45_code 103 = .ok (.aload_n 0, 1) := by decide +kernel
theorem d276_104 : decode prog_13_method_45_code 104 = .ok (.getfield 50, 3) := by decide +kernel
theorem f276_50 : xFd (xMo 276) 50 = some (11, 18) := by decide +kernel
theorem d276_107 : decode prog_13_method_45_code 107 = .ok (.iconst 0, 1) := by decide +kernel
theorem d276_108 : decode prog_13_method_45_code 108 = .ok (.laload, 1) := by decide +kernel
theorem d276_109 : decode prog_13_method_45_code 109 = .ok (.l2i, 1) := by decide +kernel
theorem d276_110 : decode prog_13_method_45_code 110 = .ok (.iastore, 1) := by decide +kernel
theorem d276_111 : decode prog_13_method_45_code 111 = .ok (.return_, 1) := by decide +kernel
set_option maxRecDepth 100000 in
theorem q277 : xMc 277 = prog_13_method_39_code := rfl
theorem m277 : xMl 277 = 3 ∧ xMret 277 = none ∧ xMh 277 = [] := by decide +kernel
theorem e277 {X : xX} {d : Nat} {w : xH} {Q : xO → xH → Prop} (a : Nat) (x0 : Int32) : Cw X d 277 [.ref a, .int x0] w Q = Wx X d 277 0 [some (.ref a), some (.int x0), none] [] w Q := by
  unfold Cw
  rw [m277.1]
  rfl
theorem d277_0 : decode prog_13_method_39_code 0 = .ok (.aload_n 0, 1) := by decide +kernel
theorem d277_1 : decode prog_13_method_39_code 1 = .ok (.iload_n 1, 1) := by decide +kernel
theorem d277_2 : decode prog_13_method_39_code 2 = .ok (.aload_n 0, 1) := by decide +kernel
theorem d277_3 : decode prog_13_method_39_code 3 = .ok (.getfield 188, 3) := by decide +kernel
theorem f277_188 : xFd (xMo 277) 188 = some (11, 25) := by decide +kernel
theorem d277_6 : decode prog_13_method_39_code 6 = .ok (.invokevirtual 111, 3) := by decide +kernel
theorem k277_111_11 : xCa (xMo 277) 111 11 = some (1, 222, 2) := by decide +kernel
theorem n277_111 : xcn (xMo 277) 111 = some 2 := by decide +kernel
theorem d277_9 : decode prog_13_method_39_code 9 = .ok (.istore_n 2, 1) := by decide +kernel
theorem d277_10 : decode prog_13_method_39_code 10 = .ok (.iload_n 2, 1) := by decide +kernel
theorem d277_11 : decode prog_13_method_39_code 11 = .ok (.bipush 45, 2) := by decide +kernel
theorem d277_13 : decode prog_13_method_39_code 13 = .ok (.if_icmp .ne 13, 3) := by decide +kernel
theorem d277_16 : decode prog_13_method_39_code 16 = .ok (.aload_n 0, 1) := by decide +kernel
theorem d277_17 : decode prog_13_method_39_code 17 = .ok (.sipush 210, 3) := by decide +kernel
theorem d277_20 : decode prog_13_method_39_code 20 = .ok (.invokevirtual 191, 3) := by decide +kernel
theorem k277_191_11 : xCa (xMo 277) 191 11 = some (1, 278, 1) := by decide +kernel
theorem n277_191 : xcn (xMo 277) 191 = some 1 := by decide +kernel
theorem d277_23 : decode prog_13_method_39_code 23 = .ok (.goto 177, 3) := by decide +kernel
theorem d277_26 : decode prog_13_method_39_code 26 = .ok (.iload_n 2, 1) := by decide +kernel
theorem d277_27 : decode prog_13_method_39_code 27 = .ok (.bipush 40, 2) := by decide +kernel
theorem d277_29 : decode prog_13_method_39_code 29 = .ok (.if_icmp .ne 12, 3) := by decide +kernel
theorem d277_32 : decode prog_13_method_39_code 32 = .ok (.aload_n 0, 1) := by decide +kernel
theorem d277_33 : decode prog_13_method_39_code 33 = .ok (.bipush 40, 2) := by decide +kernel
theorem d277_35 : decode prog_13_method_39_code 35 = .ok (.invokevirtual 191, 3) := by decide +kernel
theorem d277_38 : decode prog_13_method_39_code 38 = .ok (.goto 162, 3) := by decide +kernel
theorem d277_41 : decode prog_13_method_39_code 41 = .ok (.iload_n 2, 1) := by decide +kernel
theorem d277_42 : decode prog_13_method_39_code 42 = .ok (.invokestatic 194, 3) := by decide +kernel
theorem k277_194_99 : xCa (xMo 277) 194 99 = some (0, 279, 1) := by decide +kernel
theorem d277_45 : decode prog_13_method_39_code 45 = .ok (.ifCond .eq 21, 3) := by decide +kernel
theorem d277_48 : decode prog_13_method_39_code 48 = .ok (.aload_n 0, 1) := by decide +kernel
theorem d277_49 : decode prog_13_method_39_code 49 = .ok (.iload_n 2, 1) := by decide +kernel
theorem d277_50 : decode prog_13_method_39_code 50 = .ok (.invokevirtual 191, 3) := by decide +kernel
theorem d277_53 : decode prog_13_method_39_code 53 = .ok (.aload_n 0, 1) := by decide +kernel
theorem d277_54 : decode prog_13_method_39_code 54 = .ok (.dup, 1) := by decide +kernel
theorem d277_55 : decode prog_13_method_39_code 55 = .ok (.getfield 188, 3) := by decide +kernel
theorem d277_58 : decode prog_13_method_39_code 58 = .ok (.iconst 1, 1) := by decide +kernel
theorem d277_59 : decode prog_13_method_39_code 59 = .ok (.iadd, 1) := by decide +kernel
theorem d277_60 : decode prog_13_method_39_code 60 = .ok (.putfield 188, 3) := by decide +kernel
theorem d277_63 : decode prog_13_method_39_code 63 = .ok (.goto 137, 3) := by decide +kernel
theorem d277_66 : decode prog_13_method_39_code 66 = .ok (.aload_n 0, 1) := by decide +kernel
theorem d277_67 : decode prog_13_method_39_code 67 = .ok (.iload_n 1, 1) := by decide +kernel
theorem d277_68 : decode prog_13_method_39_code 68 = .ok (.aload_n 0, 1) := by decide +kernel
theorem d277_69 : decode prog_13_method_39_code 69 = .ok (.getfield 188, 3) := by decide +kernel
theorem d277_72 : decode prog_13_method_39_code 72 = .ok (.invokevirtual 137, 3) := by decide +kernel
theorem k277_137_11 : xCa (xMo 277) 137 11 = some (1, 221, 2) := by decide +kernel
theorem n277_137 : xcn (xMo 277) 137 = some 2 := by decide +kernel
theorem d277_75 : decode prog_13_method_39_code 75 = .ok (.ifCond .eq 43, 3) := by decide +kernel
theorem d277_78 : decode prog_13_method_39_code 78 = .ok (.aload_n 0, 1) := by decide +kernel
theorem d277_79 : decode prog_13_method_39_code 79 = .ok (.iload_n 2, 1) := by decide +kernel
theorem d277_80 : decode prog_13_method_39_code 80 = .ok (.invokestatic 140, 3) := by decide +kernel
theorem k277_140_99 : xCa (xMo 277) 140 99 = some (0, 224, 1) := by decide +kernel
theorem d277_83 : decode prog_13_method_39_code 83 = .ok (.aload_n 0, 1) := by decide +kernel
theorem d277_84 : decode prog_13_method_39_code 84 = .ok (.iload_n 1, 1) := by decide +kernel
theorem d277_85 : decode prog_13_method_39_code 85 = .ok (.aload_n 0, 1) := by decide +kernel
theorem d277_86 : decode prog_13_method_39_code 86 = .ok (.getfield 188, 3) := by decide +kernel
theorem d277_89 : decode prog_13_method_39_code 89 = .ok (.iconst 2, 1) := by decide +kernel
theorem d277_90 : decode prog_13_method_39_code 90 = .ok (.iadd, 1) := by decide +kernel
theorem d277_91 : decode prog_13_method_39_code 91 = .ok (.invokevirtual 111, 3) := by decide +kernel
theorem d277_94 : decode prog_13_method_39_code 94 = .ok (.invokestatic 140, 3) := by decide +kernel
theorem d277_97 : decode prog_13_method_39_code 97 = .ok (.invokevirtual 197, 3) := by decide +kernel
theorem k277_197_11 : xCa (xMo 277) 197 11 = some (1, 280, 2) := by decide +kernel
theorem n277_197 : xcn (xMo 277) 197 = some 2 := by decide +kernel
theorem d277_100 : decode prog_13_method_39_code 100 = .ok (.aload_n 0, 1) := by decide +kernel
theorem d277_101 : decode prog_13_method_39_code 101 = .ok (.dup, 1) := by decide +kernel
theorem d277_102 : decode prog_13_method_39_code 102 = .ok (.getfield 188, 3) := by decide +kernel
theorem d277_105 : decode prog_13_method_39_code 105 = .ok (.iconst 2, 1) := by decide +kernel
theorem d277_106 : decode prog_13_method_39_code 106 = .ok (.iadd, 1) := by decide +kernel
theorem d277_107 : decode prog_13_method_39_code 107 = .ok (.putfield 188, 3) := by decide +kernel
theorem d277_110 : decode prog_13_method_39_code 110 = .ok (.aload_n 0, 1) := by decide +kernel
theorem d277_111 : decode prog_13_method_39_code 111 = .ok (.iconst 0, 1) := by decide +kernel
theorem d277_112 : decode prog_13_method_39_code 112 = .ok (.putfield 200, 3) := by decide +kernel
theorem f277_200 : xFd (xMo 277) 200 = some (11, 26) := by decide +kernel
theorem d277_115 : decode prog_13_method_39_code 115 = .ok (.goto 85, 3) := by decide +kernel
theorem d277_118 : decode prog_13_method_39_code 118 = .ok (.iload_n 2, 1) := by decide +kernel
theorem d277_119 : decode prog_13_method_39_code 119 = .ok (.invokestatic 115, 3) := by decide +kernel
theorem k277_115_99 : xCa (xMo 277) 115 99 = some (0, 223, 1) := by decide +kernel
theorem d277_122 : decode prog_13_method_39_code 122 = .ok (.ifCond .eq 49, 3) := by decide +kernel
theorem d277_125 : decode prog_13_method_39_code 125 = .ok (.aload_n 0, 1) := by decide +kernel
theorem d277_126 : decode prog_13_method_39_code 126 = .ok (.aload_n 0, 1) := by decide +kernel
theorem d277_127 : decode prog_13_method_39_code 127 = .ok (.getfield 47, 3) := by decide +kernel
theorem f277_47 : xFd (xMo 277) 47 = some (11, 17) := by decide +kernel
theorem d277_130 : decode prog_13_method_39_code 130 = .ok (.iload_n 2, 1) := by decide +kernel
theorem d277_131 : decode prog_13_method_39_code 131 = .ok (.invokestatic 140, 3) := by decide +kernel
theorem d277_134 : decode prog_13_method_39_code 134 = .ok (.iaload, 1) := by decide +kernel
theorem d277_135 : decode prog_13_method_39_code 135 = .ok (.putfield 151, 3) := by decide +kernel
theorem f277_151 : xFd (xMo 277) 151 = some (11, 24) := by decide +kernel
theorem d277_138 : decode prog_13_method_39_code 138 = .ok (.aload_n 0, 1) := by decide +kernel
theorem d277_139 : decode prog_13_method_39_code 139 = .ok (.aload_n 0, 1) := by decide +kernel
theorem d277_140 : decode prog_13_method_39_code 140 = .ok (.getfield 151, 3) := by decide +kernel
theorem d277_143 : decode prog_13_method_39_code 143 = .ok (.ifCond .le 7, 3) := by decide +kernel
theorem d277_146 : decode prog_13_method_39_code 146 = .ok (.lconst 0, 1) := by decide +kernel
theorem d277_147 : decode prog_13_method_39_code 147 = .ok (.goto 13, 3) := by decide +kernel
theorem d277_150 : decode prog_13_method_39_code 150 = .ok (.aload_n 0, 1) := by decide +kernel
theorem d277_151 : decode prog_13_method_39_code 151 = .ok (.getfield 44, 3) := by decide +kernel
theorem f277_44 : xFd (xMo 277) 44 = some (11, 16) := by decide +kernel
theorem d277_154 : decode prog_13_method_39_code 154 = .ok (.iload_n 2, 1) := by decide +kernel
theorem d277_155 : decode prog_13_method_39_code 155 = .ok (.invokestatic 140, 3) := by decide +kernel
theorem d277_158 : decode prog_13_method_39_code 158 = .ok (.iaload, 1) := by decide +kernel
theorem d277_159 : decode prog_13_method_39_code 159 = .ok (.i2l, 1) := by decide +kernel
theorem d277_160 : decode prog_13_method_39_code 160 = .ok (.invokevirtual 164, 3) := by decide +kernel
theorem k277_164_11 : xCa (xMo 277) 164 11 = some (1, 283, 1) := by decide +kernel
theorem n277_164 : xcn (xMo 277) 164 = some 1 := by decide +kernel
theorem d277_163 : decode prog_13_method_39_code 163 = .ok (.aload_n 0, 1) := by decide +kernel
theorem d277_164 : decode prog_13_method_39_code 164 = .ok (.iconst 0, 1) := by decide +kernel
theorem d277_165 : decode prog_13_method_39_code 165 = .ok (.putfield 200, 3) := by decide +kernel
theorem d277_168 : decode prog_13_method_39_code 168 = .ok (.goto 32, 3) := by decide +kernel
theorem d277_171 : decode prog_13_method_39_code 171 = .ok (.iload_n 2, 1) := by decide +kernel
theorem d277_172 : decode prog_13_method_39_code 172 = .ok (.ldc 110, 2) := by decide +kernel
theorem d277_174 : decode prog_13_method_39_code 174 = .ok (.if_icmp .ne 11, 3) := by decide +kernel
theorem d277_177 : decode prog_13_method_39_code 177 = .ok (.aload_n 0, 1) := by decide +kernel
theorem d277_178 : decode prog_13_method_39_code 178 = .ok (.iconst 3, 1) := by decide +kernel
theorem d277_179 : decode prog_13_method_39_code 179 = .ok (.putfield 151, 3) := by decide +kernel
theorem d277_182 : decode prog_13_method_39_code 182 = .ok (.goto 18, 3) := by decide +kernel
theorem d277_185 : decode prog_13_method_39_code 185 = .ok (.aload_n 0, 1) := by decide +kernel
theorem d277_186 : decode prog_13_method_39_code 186 = .ok (.iload_n 2, 1) := by decide +kernel
theorem d277_187 : decode prog_13_method_39_code 187 = .ok (.sipush 10000, 3) := by decide +kernel
theorem d277_190 : decode prog_13_method_39_code 190 = .ok (.isub, 1) := by decide +kernel
theorem d277_191 : decode prog_13_method_39_code 191 = .ok (.i2l, 1) := by decide +kernel
theorem d277_192 : decode prog_13_method_39_code 192 = .ok (.invokevirtual 164, 3) := by decide +kernel
theorem d277_195 : decode prog_13_method_39_code 195 = .ok (.aload_n 0, 1) := by decide +kernel
theorem d277_196 : decode prog_13_method_39_code 196 = .ok (.iconst 0, 1) := by decide +kernel
theorem d277_197 : decode prog_13_method_39_code 197 = .ok (.putfield 200, 3) := by decide +kernel
theorem d277_200 : decode prog_13_method_39_code 200 = .ok (.aload_n 0, 1) := by decide +kernel
theorem d277_201 : decode prog_13_method_39_code 201 = .ok (.dup, 1) := by decide +kernel
theorem d277_202 : decode prog_13_method_39_code 202 = .ok (.getfield 188, 3) := by decide +kernel
theorem d277_205 : decode prog_13_method_39_code 205 = .ok (.iconst 1, 1) := by decide +kernel
theorem d277_206 : decode prog_13_method_39_code 206 = .ok (.iadd, 1) := by decide +kernel
theorem d277_207 : decode prog_13_method_39_code 207 = .ok (.putfield 188, 3) := by decide +kernel
theorem d277_210 : decode prog_13_method_39_code 210 = .ok (.return_, 1) := by decide +kernel
set_option maxRecDepth 100000 in
theorem q278 : xMc 278 = prog_13_method_34_code := rfl
theorem m278 : xMl 278 = 2 ∧ xMret 278 = none ∧ xMh 278 = [] := by decide +kernel
theorem e278 {X : xX} {d : Nat} {w : xH} {Q : xO → xH → Prop} (a : Nat) (x0 : Int32) : Cw X d 278 [.ref a, .int x0] w Q = Wx X d 278 0 [some (.ref a), some (.int x0)] [] w Q := by
  unfold Cw
  rw [m278.1]
  rfl
theorem d278_0 : decode prog_13_method_34_code 0 = .ok (.aload_n 0, 1) := by decide +kernel
theorem d278_1 : decode prog_13_method_34_code 1 = .ok (.getfield 53, 3) := by decide +kernel
theorem f278_53 : xFd (xMo 278) 53 = some (11, 19) := by decide +kernel
theorem d278_4 : decode prog_13_method_34_code 4 = .ok (.aload_n 0, 1) := by decide +kernel
theorem d278_5 : decode prog_13_method_34_code 5 = .ok (.getfield 157, 3) := by decide +kernel
theorem f278_157 : xFd (xMo 278) 157 = some (11, 23) := by decide +kernel
theorem d278_8 : decode prog_13_method_34_code 8 = .ok (.iload_n 1, 1) := by decide +kernel
theorem d278_9 : decode prog_13_method_34_code 9 = .ok (.iastore, 1) := by decide +kernel
theorem d278_10 : decode prog_13_method_34_code 10 = .ok (.aload_n 0, 1) := by decide +kernel
theorem d278_11 : decode prog_13_method_34_code 11 = .ok (.getfield 56, 3) := by decide +kernel
theorem f278_56 : xFd (xMo 278) 56 = some (11, 20) := by decide +kernel
theorem d278_14 : decode prog_13_method_34_code 14 = .ok (.aload_n 0, 1) := by decide +kernel
theorem d278_15 : decode prog_13_method_34_code 15 = .ok (.getfield 157, 3) := by decide +kernel
theorem d278_18 : decode prog_13_method_34_code 18 = .ok (.lconst 0, 1) := by decide +kernel
theorem d278_19 : decode prog_13_method_34_code 19 = .ok (.lastore, 1) := by decide +kernel
theorem d278_20 : decode prog_13_method_34_code 20 = .ok (.aload_n 0, 1) := by decide +kernel
theorem d278_21 : decode prog_13_method_34_code 21 = .ok (.getfield 59, 3) := by decide +kernel
theorem f278_59 : xFd (xMo 278) 59 = some (11, 21) := by decide +kernel
theorem d278_24 : decode prog_13_method_34_code 24 = .ok (.aload_n 0, 1) := by decide +kernel
theorem d278_25 : decode prog_13_method_34_code 25 = .ok (.getfield 157, 3) := by decide +kernel
theorem d278_28 : decode prog_13_method_34_code 28 = .ok (.iconst 0, 1) := by decide +kernel
theorem d278_29 : decode prog_13_method_34_code 29 = .ok (.iastore, 1) := by decide +kernel
theorem d278_30 : decode prog_13_method_34_code 30 = .ok (.aload_n 0, 1) := by decide +kernel
theorem d278_31 : decode prog_13_method_34_code 31 = .ok (.dup, 1) := by decide +kernel
theorem d278_32 : decode prog_13_method_34_code 32 = .ok (.getfield 157, 3) := by decide +kernel
theorem d278_35 : decode prog_13_method_34_code 35 = .ok (.iconst 1, 1) := by decide +kernel
theorem d278_36 : decode prog_13_method_34_code 36 = .ok (.iadd, 1) := by decide +kernel
theorem d278_37 : decode prog_13_method_34_code 37 = .ok (.putfield 157, 3) := by decide +kernel
theorem d278_40 : decode prog_13_method_34_code 40 = .ok (.return_, 1) := by decide +kernel
set_option maxRecDepth 100000 in
theorem q279 : xMc 279 = prog_13_method_26_code := rfl
theorem m279 : xMl 279 = 1 ∧ xMret 279 = (some FieldType.boolean) ∧ xMh 279 = [] := by decide +kernel
theorem e279 {X : xX} {d : Nat} {w : xH} {Q : xO → xH → Prop} (x0 : Int32) : Cw X d 279 [.int x0] w Q = Wx X d 279 0 [some (.int x0)] [] w Q := by
  unfold Cw
  rw [m279.1]
  rfl
theorem d279_0 : decode prog_13_method_26_code 0 = .ok (.iload_n 0, 1) := by decide +kernel
theorem d279_1 : decode prog_13_method_26_code 1 = .ok (.sipush 200, 3) := by decide +kernel
theorem d279_4 : decode prog_13_method_26_code 4 = .ok (.if_icmp .lt 14, 3) := by decide +kernel
theorem d279_7 : decode prog_13_method_26_code 7 = .ok (.iload_n 0, 1) := by decide +kernel
theorem d279_8 : decode prog_13_method_26_code 8 = .ok (.sipush 205, 3) := by decide +kernel
theorem d279_11 : decode prog_13_method_26_code 11 = .ok (.if_icmp .gt 7, 3) := by decide +kernel
theorem d279_14 : decode prog_13_method_26_code 14 = .ok (.iconst 1, 1) := by decide +kernel
theorem d279_15 : decode prog_13_method_26_code 15 = .ok (.goto 4, 3) := by decide +kernel
theorem d279_18 : decode prog_13_method_26_code 18 = .ok (.iconst 0, 1) := by decide +kernel
theorem d279_19 : decode prog_13_method_26_code 19 = .ok (.ireturn, 1) := by decide +kernel
set_option maxRecDepth 100000 in
theorem q280 : xMc 280 = prog_13_method_37_code := rfl
theorem m280 : xMl 280 = 5 ∧ xMret 280 = none ∧ xMh 280 = [] := by decide +kernel
theorem e280 {X : xX} {d : Nat} {w : xH} {Q : xO → xH → Prop} (a : Nat) (x0 : Int32) (x1 : Int32) : Cw X d 280 [.ref a, .int x0, .int x1] w Q = Wx X d 280 0 [some (.ref a), some (.int x0), some (.int x1), none, none] [] w Q := by
  unfold Cw
  rw [m280.1]
  rfl
theorem d280_0 : decode prog_13_method_37_code 0 = .ok (.iload_n 1, 1) := by decide +kernel
theorem d280_1 : decode prog_13_method_37_code 1 = .ok (.bipush 10, 2) := by decide +kernel
theorem d280_3 : decode prog_13_method_37_code 3 = .ok (.idiv, 1) := by decide +kernel
theorem d280_4 : decode prog_13_method_37_code 4 = .ok (.iload_n 2, 1) := by decide +kernel
theorem d280_5 : decode prog_13_method_37_code 5 = .ok (.bipush 10, 2) := by decide +kernel
theorem d280_7 : decode prog_13_method_37_code 7 = .ok (.idiv, 1) := by decide +kernel
theorem d280_8 : decode prog_13_method_37_code 8 = .ok (.invokestatic 123, 3) := by decide +kernel
theorem k280_123_99 : xCa (xMo 280) 123 99 = some (0, 226, 2) := by decide +kernel
theorem d280_11 : decode prog_13_method_37_code 11 = .ok (.istore_n 3, 1) := by decide +kernel
theorem d280_12 : decode prog_13_method_37_code 12 = .ok (.iload_n 3, 1) := by decide +kernel
theorem d280_13 : decode prog_13_method_37_code 13 = .ok (.iload_n 1, 1) := by decide +kernel
theorem d280_14 : decode prog_13_method_37_code 14 = .ok (.bipush 10, 2) := by decide +kernel
theorem d280_16 : decode prog_13_method_37_code 16 = .ok (.idiv, 1) := by decide +kernel
theorem d280_17 : decode prog_13_method_37_code 17 = .ok (.iload_n 2, 1) := by decide +kernel
theorem d280_18 : decode prog_13_method_37_code 18 = .ok (.bipush 10, 2) := by decide +kernel
theorem d280_20 : decode prog_13_method_37_code 20 = .ok (.idiv, 1) := by decide +kernel
theorem d280_21 : decode prog_13_method_37_code 21 = .ok (.invokestatic 126, 3) := by decide +kernel
theorem k280_126_99 : xCa (xMo 280) 126 99 = some (0, 227, 2) := by decide +kernel
theorem d280_24 : decode prog_13_method_37_code 24 = .ok (.if_icmp .gt 55, 3) := by decide +kernel
theorem d280_27 : decode prog_13_method_37_code 27 = .ok (.iload_n 1, 1) := by decide +kernel
theorem d280_28 : decode prog_13_method_37_code 28 = .ok (.bipush 10, 2) := by decide +kernel
theorem d280_30 : decode prog_13_method_37_code 30 = .ok (.irem, 1) := by decide +kernel
theorem d280_31 : decode prog_13_method_37_code 31 = .ok (.iload_n 2, 1) := by decide +kernel
theorem d280_32 : decode prog_13_method_37_code 32 = .ok (.bipush 10, 2) := by decide +kernel
theorem d280_34 : decode prog_13_method_37_code 34 = .ok (.irem, 1) := by decide +kernel
theorem d280_35 : decode prog_13_method_37_code 35 = .ok (.invokestatic 123, 3) := by decide +kernel
theorem d280_38 : decode prog_13_method_37_code 38 = .ok (.istore 4, 2) := by decide +kernel
theorem d280_40 : decode prog_13_method_37_code 40 = .ok (.iload 4, 2) := by decide +kernel
theorem d280_42 : decode prog_13_method_37_code 42 = .ok (.iload_n 1, 1) := by decide +kernel
theorem d280_43 : decode prog_13_method_37_code 43 = .ok (.bipush 10, 2) := by decide +kernel
theorem d280_45 : decode prog_13_method_37_code 45 = .ok (.irem, 1) := by decide +kernel
theorem d280_46 : decode prog_13_method_37_code 46 = .ok (.iload_n 2, 1) := by decide +kernel
theorem d280_47 : decode prog_13_method_37_code 47 = .ok (.bipush 10, 2) := by decide +kernel
theorem d280_49 : decode prog_13_method_37_code 49 = .ok (.irem, 1) := by decide +kernel
theorem d280_50 : decode prog_13_method_37_code 50 = .ok (.invokestatic 126, 3) := by decide +kernel
theorem d280_53 : decode prog_13_method_37_code 53 = .ok (.if_icmp .gt 20, 3) := by decide +kernel
theorem d280_56 : decode prog_13_method_37_code 56 = .ok (.aload_n 0, 1) := by decide +kernel
theorem d280_57 : decode prog_13_method_37_code 57 = .ok (.bipush 10, 2) := by decide +kernel
theorem d280_59 : decode prog_13_method_37_code 59 = .ok (.iload_n 3, 1) := by decide +kernel
theorem d280_60 : decode prog_13_method_37_code 60 = .ok (.imul, 1) := by decide +kernel
theorem d280_61 : decode prog_13_method_37_code 61 = .ok (.iload 4, 2) := by decide +kernel
theorem d280_63 : decode prog_13_method_37_code 63 = .ok (.iadd, 1) := by decide +kernel
theorem d280_64 : decode prog_13_method_37_code 64 = .ok (.invokevirtual 185, 3) := by decide +kernel
theorem k280_185_11 : xCa (xMo 280) 185 11 = some (1, 281, 1) := by decide +kernel
theorem n280_185 : xcn (xMo 280) 185 = some 1 := by decide +kernel
theorem d280_67 : decode prog_13_method_37_code 67 = .ok (.iinc 4 1, 3) := by decide +kernel
theorem d280_70 : decode prog_13_method_37_code 70 = .ok (.goto (-30), 3) := by decide +kernel
theorem d280_73 : decode prog_13_method_37_code 73 = .ok (.iinc 3 1, 3) := by decide +kernel
theorem d280_76 : decode prog_13_method_37_code 76 = .ok (.goto (-64), 3) := by decide +kernel
theorem d280_79 : decode prog_13_method_37_code 79 = .ok (.return_, 1) := by decide +kernel
set_option maxRecDepth 100000 in
theorem q281 : xMc 281 = prog_13_method_36_code := rfl
theorem m281 : xMl 281 = 2 ∧ xMret 281 = none ∧ xMh 281 = [] := by decide +kernel
theorem e281 {X : xX} {d : Nat} {w : xH} {Q : xO → xH → Prop} (a : Nat) (x0 : Int32) : Cw X d 281 [.ref a, .int x0] w Q = Wx X d 281 0 [some (.ref a), some (.int x0)] [] w Q := by
  unfold Cw
  rw [m281.1]
  rfl
theorem d281_0 : decode prog_13_method_36_code 0 = .ok (.aload_n 0, 1) := by decide +kernel
theorem d281_1 : decode prog_13_method_36_code 1 = .ok (.iload_n 1, 1) := by decide +kernel
theorem d281_2 : decode prog_13_method_36_code 2 = .ok (.iconst 0, 1) := by decide +kernel
theorem d281_3 : decode prog_13_method_36_code 3 = .ok (.invokevirtual 133, 3) := by decide +kernel
theorem k281_133_11 : xCa (xMo 281) 133 11 = some (1, 219, 2) := by decide +kernel
theorem n281_133 : xcn (xMo 281) 133 = some 2 := by decide +kernel
theorem d281_6 : decode prog_13_method_36_code 6 = .ok (.ifCond .ne 10, 3) := by decide +kernel
theorem d281_9 : decode prog_13_method_36_code 9 = .ok (.aload_n 0, 1) := by decide +kernel
theorem d281_10 : decode prog_13_method_36_code 10 = .ok (.getfield 151, 3) := by decide +kernel
theorem f281_151 : xFd (xMo 281) 151 = some (11, 24) := by decide +kernel
theorem d281_13 : decode prog_13_method_36_code 13 = .ok (.ifCond .le 4, 3) := by decide +kernel
theorem d281_16 : decode prog_13_method_36_code 16 = .ok (.return_, 1) := by decide +kernel
theorem d281_17 : decode prog_13_method_36_code 17 = .ok (.aload_n 0, 1) := by decide +kernel
theorem d281_18 : decode prog_13_method_36_code 18 = .ok (.getfield 53, 3) := by decide +kernel
theorem f281_53 : xFd (xMo 281) 53 = some (11, 19) := by decide +kernel
theorem d281_21 : decode prog_13_method_36_code 21 = .ok (.aload_n 0, 1) := by decide +kernel
theorem d281_22 : decode prog_13_method_36_code 22 = .ok (.getfield 157, 3) := by decide +kernel
theorem f281_157 : xFd (xMo 281) 157 = some (11, 23) := by decide +kernel
theorem d281_25 : decode prog_13_method_36_code 25 = .ok (.iconst 1, 1) := by decide +kernel
theorem d281_26 : decode prog_13_method_36_code 26 = .ok (.isub, 1) := by decide +kernel
theorem d281_27 : decode prog_13_method_36_code 27 = .ok (.iaload, 1) := by decide +kernel
theorem d281_28 : decode prog_13_method_36_code 28 = .ok (.sipush 203, 3) := by decide +kernel
theorem d281_31 : decode prog_13_method_36_code 31 = .ok (.if_icmp .ne 21, 3) := by decide +kernel
theorem d281_34 : decode prog_13_method_36_code 34 = .ok (.aload_n 0, 1) := by decide +kernel
theorem d281_35 : decode prog_13_method_36_code 35 = .ok (.getfield 59, 3) := by decide +kernel
theorem f281_59 : xFd (xMo 281) 59 = some (11, 21) := by decide +kernel
theorem d281_38 : decode prog_13_method_36_code 38 = .ok (.aload_n 0, 1) := by decide +kernel
theorem d281_39 : decode prog_13_method_36_code 39 = .ok (.getfield 157, 3) := by decide +kernel
theorem d281_42 : decode prog_13_method_36_code 42 = .ok (.iconst 1, 1) := by decide +kernel
theorem d281_43 : decode prog_13_method_36_code 43 = .ok (.isub, 1) := by decide +kernel
theorem d281_44 : decode prog_13_method_36_code 44 = .ok (.dup2, 1) := by decide +kernel
theorem d281_45 : decode prog_13_method_36_code 45 = .ok (.iaload, 1) := by decide +kernel
theorem d281_46 : decode prog_13_method_36_code 46 = .ok (.iconst 1, 1) := by decide +kernel
theorem d281_47 : decode prog_13_method_36_code 47 = .ok (.iadd, 1) := by decide +kernel
theorem d281_48 : decode prog_13_method_36_code 48 = .ok (.iastore, 1) := by decide +kernel
theorem d281_49 : decode prog_13_method_36_code 49 = .ok (.goto 36, 3) := by decide +kernel
theorem d281_52 : decode prog_13_method_36_code 52 = .ok (.aload_n 0, 1) := by decide +kernel
theorem d281_53 : decode prog_13_method_36_code 53 = .ok (.getfield 47, 3) := by decide +kernel
theorem f281_47 : xFd (xMo 281) 47 = some (11, 17) := by decide +kernel
theorem d281_56 : decode prog_13_method_36_code 56 = .ok (.iload_n 1, 1) := by decide +kernel
theorem d281_57 : decode prog_13_method_36_code 57 = .ok (.iaload, 1) := by decide +kernel
theorem d281_58 : decode prog_13_method_36_code 58 = .ok (.ifCond .le 16, 3) := by decide +kernel
theorem d281_61 : decode prog_13_method_36_code 61 = .ok (.aload_n 0, 1) := by decide +kernel
theorem d281_62 : decode prog_13_method_36_code 62 = .ok (.aload_n 0, 1) := by decide +kernel
theorem d281_63 : decode prog_13_method_36_code 63 = .ok (.getfield 47, 3) := by decide +kernel
theorem d281_66 : decode prog_13_method_36_code 66 = .ok (.iload_n 1, 1) := by decide +kernel
theorem d281_67 : decode prog_13_method_36_code 67 = .ok (.iaload, 1) := by decide +kernel
theorem d281_68 : decode prog_13_method_36_code 68 = .ok (.putfield 151, 3) := by decide +kernel
theorem d281_71 : decode prog_13_method_36_code 71 = .ok (.goto 14, 3) := by decide +kernel
theorem d281_74 : decode prog_13_method_36_code 74 = .ok (.aload_n 0, 1) := by decide +kernel
theorem d281_75 : decode prog_13_method_36_code 75 = .ok (.aload_n 0, 1) := by decide +kernel
theorem d281_76 : decode prog_13_method_36_code 76 = .ok (.getfield 44, 3) := by decide +kernel
theorem f281_44 : xFd (xMo 281) 44 = some (11, 16) := by decide +kernel
theorem d281_79 : decode prog_13_method_36_code 79 = .ok (.iload_n 1, 1) := by decide +kernel
theorem d281_80 : decode prog_13_method_36_code 80 = .ok (.iaload, 1) := by decide +kernel
theorem d281_81 : decode prog_13_method_36_code 81 = .ok (.i2l, 1) := by decide +kernel
theorem d281_82 : decode prog_13_method_36_code 82 = .ok (.invokevirtual 182, 3) := by decide +kernel
theorem k281_182_11 : xCa (xMo 281) 182 11 = some (1, 282, 1) := by decide +kernel
theorem n281_182 : xcn (xMo 281) 182 = some 1 := by decide +kernel
theorem d281_85 : decode prog_13_method_36_code 85 = .ok (.return_, 1) := by decide +kernel
set_option maxRecDepth 100000 in
theorem q282 : xMc 282 = prog_13_method_35_code := rfl
theorem m282 : xMl 282 = 5 ∧ xMret 282 = none ∧ xMh 282 = [] := by decide +kernel
theorem e282 {X : xX} {d : Nat} {w : xH} {Q : xO → xH → Prop} (a : Nat) (x0 : Int64) : Cw X d 282 [.ref a, .long x0] w Q = Wx X d 282 0 [some (.ref a), some (.long x0), none, none, none] [] w Q := by
  unfold Cw
  rw [m282.1]
  rfl
theorem d282_0 : decode prog_13_method_35_code 0 = .ok (.aload_n 0, 1) := by decide +kernel
theorem d282_1 : decode prog_13_method_35_code 1 = .ok (.getfield 157, 3) := by decide +kernel
theorem f282_157 : xFd (xMo 282) 157 = some (11, 23) := by decide +kernel
theorem d282_4 : decode prog_13_method_35_code 4 = .ok (.iconst 1, 1) := by decide +kernel
theorem d282_5 : decode prog_13_method_35_code 5 = .ok (.isub, 1) := by decide +kernel
theorem d282_6 : decode prog_13_method_35_code 6 = .ok (.istore_n 3, 1) := by decide +kernel
theorem d282_7 : decode prog_13_method_35_code 7 = .ok (.aload_n 0, 1) := by decide +kernel
theorem d282_8 : decode prog_13_method_35_code 8 = .ok (.getfield 53, 3) := by decide +kernel
theorem f282_53 : xFd (xMo 282) 53 = some (11, 19) := by decide +kernel
theorem d282_11 : decode prog_13_method_35_code 11 = .ok (.iload_n 3, 1) := by decide +kernel
theorem d282_12 : decode prog_13_method_35_code 12 = .ok (.iaload, 1) := by decide +kernel
theorem d282_13 : decode prog_13_method_35_code 13 = .ok (.sipush 201, 3) := by decide +kernel
theorem d282_16 : decode prog_13_method_35_code 16 = .ok (.if_icmp .ne 22, 3) := by decide +kernel
theorem d282_19 : decode prog_13_method_35_code 19 = .ok (.lload_n 1, 1) := by decide +kernel
theorem d282_20 : decode prog_13_method_35_code 20 = .ok (.aload_n 0, 1) := by decide +kernel
theorem d282_21 : decode prog_13_method_35_code 21 = .ok (.getfield 56, 3) := by decide +kernel
theorem f282_56 : xFd (xMo 282) 56 = some (11, 20) := by decide +kernel
theorem d282_24 : decode prog_13_method_35_code 24 = .ok (.iload_n 3, 1) := by decide +kernel
theorem d282_25 : decode prog_13_method_35_code 25 = .ok (.laload, 1) := by decide +kernel
theorem d282_26 : decode prog_13_method_35_code 26 = .ok (.lcmp, 1) := by decide +kernel
theorem d282_27 : decode prog_13_method_35_code 27 = .ok (.ifCond .ge 7, 3) := by decide +kernel
theorem d282_30 : decode prog_13_method_35_code 30 = .ok (.iconst 1, 1) := by decide +kernel
theorem d282_31 : decode prog_13_method_35_code 31 = .ok (.goto 23, 3) := by decide +kernel
theorem d282_34 : decode prog_13_method_35_code 34 = .ok (.iconst 0, 1) := by decide +kernel
theorem d282_35 : decode prog_13_method_35_code 35 = .ok (.goto 19, 3) := by decide +kernel
theorem d282_38 : decode prog_13_method_35_code 38 = .ok (.lload_n 1, 1) := by decide +kernel
theorem d282_39 : decode prog_13_method_35_code 39 = .ok (.aload_n 0, 1) := by decide +kernel
theorem d282_40 : decode prog_13_method_35_code 40 = .ok (.getfield 56, 3) := by decide +kernel
theorem d282_43 : decode prog_13_method_35_code 43 = .ok (.iload_n 3, 1) := by decide +kernel
theorem d282_44 : decode prog_13_method_35_code 44 = .ok (.laload, 1) := by decide +kernel
theorem d282_45 : decode prog_13_method_35_code 45 = .ok (.lcmp, 1) := by decide +kernel
theorem d282_46 : decode prog_13_method_35_code 46 = .ok (.ifCond .le 7, 3) := by decide +kernel
theorem d282_49 : decode prog_13_method_35_code 49 = .ok (.iconst 1, 1) := by decide +kernel
theorem d282_50 : decode prog_13_method_35_code 50 = .ok (.goto 4, 3) := by decide +kernel
theorem d282_53 : decode prog_13_method_35_code 53 = .ok (.iconst 0, 1) := by decide +kernel
theorem d282_54 : decode prog_13_method_35_code 54 = .ok (.istore 4, 2) := by decide +kernel
theorem d282_56 : decode prog_13_method_35_code 56 = .ok (.aload_n 0, 1) := by decide +kernel
theorem d282_57 : decode prog_13_method_35_code 57 = .ok (.getfield 53, 3) := by decide +kernel
theorem d282_60 : decode prog_13_method_35_code 60 = .ok (.iload_n 3, 1) := by decide +kernel
theorem d282_61 : decode prog_13_method_35_code 61 = .ok (.iaload, 1) := by decide +kernel
theorem d282_62 : decode prog_13_method_35_code 62 = .ok (.sipush 200, 3) := by decide +kernel
theorem d282_65 : decode prog_13_method_35_code 65 = .ok (.if_icmp .ne 51, 3) := by decide +kernel
theorem d282_68 : decode prog_13_method_35_code 68 = .ok (.aload_n 0, 1) := by decide +kernel
theorem d282_69 : decode prog_13_method_35_code 69 = .ok (.getfield 56, 3) := by decide +kernel
theorem d282_72 : decode prog_13_method_35_code 72 = .ok (.iload_n 3, 1) := by decide +kernel
theorem d282_73 : decode prog_13_method_35_code 73 = .ok (.dup2, 1) := by decide +kernel
theorem d282_74 : decode prog_13_method_35_code 74 = .ok (.laload, 1) := by decide +kernel
theorem d282_75 : decode prog_13_method_35_code 75 = .ok (.lload_n 1, 1) := by decide +kernel
theorem d282_76 : decode prog_13_method_35_code 76 = .ok (.ladd, 1) := by decide +kernel
theorem d282_77 : decode prog_13_method_35_code 77 = .ok (.lastore, 1) := by decide +kernel
theorem d282_78 : decode prog_13_method_35_code 78 = .ok (.aload_n 0, 1) := by decide +kernel
theorem d282_79 : decode prog_13_method_35_code 79 = .ok (.aload_n 0, 1) := by decide +kernel
theorem d282_80 : decode prog_13_method_35_code 80 = .ok (.getfield 56, 3) := by decide +kernel
theorem d282_83 : decode prog_13_method_35_code 83 = .ok (.iload_n 3, 1) := by decide +kernel
theorem d282_84 : decode prog_13_method_35_code 84 = .ok (.laload, 1) := by decide +kernel
theorem d282_85 : decode prog_13_method_35_code 85 = .ok (.ldc2_w 147, 3) := by decide +kernel
theorem d282_88 : decode prog_13_method_35_code 88 = .ok (.lcmp, 1) := by decide +kernel
theorem d282_89 : decode prog_13_method_35_code 89 = .ok (.ifCond .lt 16, 3) := by decide +kernel
theorem d282_92 : decode prog_13_method_35_code 92 = .ok (.aload_n 0, 1) := by decide +kernel
theorem d282_93 : decode prog_13_method_35_code 93 = .ok (.getfield 56, 3) := by decide +kernel
theorem d282_96 : decode prog_13_method_35_code 96 = .ok (.iload_n 3, 1) := by decide +kernel
theorem d282_97 : decode prog_13_method_35_code 97 = .ok (.laload, 1) := by decide +kernel
theorem d282_98 : decode prog_13_method_35_code 98 = .ok (.ldc2_w 149, 3) := by decide +kernel
theorem d282_101 : decode prog_13_method_35_code 101 = .ok (.lcmp, 1) := by decide +kernel
theorem d282_102 : decode prog_13_method_35_code 102 = .ok (.ifCond .le 7, 3) := by decide +kernel
theorem d282_105 : decode prog_13_method_35_code 105 = .ok (.iconst 2, 1) := by decide +kernel
theorem d282_106 : decode prog_13_method_35_code 106 = .ok (.goto 4, 3) := by decide +kernel
theorem d282_109 : decode prog_13_method_35_code 109 = .ok (.iconst 0, 1) := by decide +kernel
theorem d282_110 : decode prog_13_method_35_code 110 = .ok (.putfield 151, 3) := by decide +kernel
theorem f282_151 : xFd (xMo 282) 151 = some (11, 24) := by decide +kernel
theorem d282_113 : decode prog_13_method_35_code 113 = .ok (.goto 24, 3) := by decide +kernel
theorem d282_116 : decode prog_13_method_35_code 116 = .ok (.aload_n 0, 1) := by decide +kernel
theorem d282_117 : decode prog_13_method_35_code 117 = .ok (.getfield 59, 3) := by decide +kernel
theorem f282_59 : xFd (xMo 282) 59 = some (11, 21) := by decide +kernel
theorem d282_120 : decode prog_13_method_35_code 120 = .ok (.iload_n 3, 1) := by decide +kernel
theorem d282_121 : decode prog_13_method_35_code 121 = .ok (.iaload, 1) := by decide +kernel
theorem d282_122 : decode prog_13_method_35_code 122 = .ok (.ifCond .eq 8, 3) := by decide +kernel
theorem d282_125 : decode prog_13_method_35_code 125 = .ok (.iload 4, 2) := by decide +kernel
theorem d282_127 : decode prog_13_method_35_code 127 = .ok (.ifCond .eq 10, 3) := by decide +kernel
theorem d282_130 : decode prog_13_method_35_code 130 = .ok (.aload_n 0, 1) := by decide +kernel
theorem d282_131 : decode prog_13_method_35_code 131 = .ok (.getfield 56, 3) := by decide +kernel
theorem d282_134 : decode prog_13_method_35_code 134 = .ok (.iload_n 3, 1) := by decide +kernel
theorem d282_135 : decode prog_13_method_35_code 135 = .ok (.lload_n 1, 1) := by decide +kernel
theorem d282_136 : decode prog_13_method_35_code 136 = .ok (.lastore, 1) := by decide +kernel
theorem d282_137 : decode prog_13_method_35_code 137 = .ok (.aload_n 0, 1) := by decide +kernel
theorem d282_138 : decode prog_13_method_35_code 138 = .ok (.getfield 59, 3) := by decide +kernel
theorem d282_141 : decode prog_13_method_35_code 141 = .ok (.iload_n 3, 1) := by decide +kernel
theorem d282_142 : decode prog_13_method_35_code 142 = .ok (.dup2, 1) := by decide +kernel
theorem d282_143 : decode prog_13_method_35_code 143 = .ok (.iaload, 1) := by decide +kernel
theorem d282_144 : decode prog_13_method_35_code 144 = .ok (.iconst 1, 1) := by decide +kernel
theorem d282_145 : decode prog_13_method_35_code 145 = .ok (.iadd, 1) := by decide +kernel
theorem d282_146 : decode prog_13_method_35_code 146 = .ok (.iastore, 1) := by decide +kernel
theorem d282_147 : decode prog_13_method_35_code 147 = .ok (.return_, 1) := by decide +kernel
set_option maxRecDepth 100000 in
theorem q283 : xMc 283 = prog_13_method_28_code := rfl
theorem m283 : xMl 283 = 4 ∧ xMret 283 = none ∧ xMh 283 = [] := by decide +kernel
theorem e283 {X : xX} {d : Nat} {w : xH} {Q : xO → xH → Prop} (a : Nat) (x0 : Int64) : Cw X d 283 [.ref a, .long x0] w Q = Wx X d 283 0 [some (.ref a), some (.long x0), none, none] [] w Q := by
  unfold Cw
  rw [m283.1]
  rfl
theorem d283_0 : decode prog_13_method_28_code 0 = .ok (.lload_n 1, 1) := by decide +kernel
theorem d283_1 : decode prog_13_method_28_code 1 = .ok (.ldc2_w 147, 3) := by decide +kernel
theorem d283_4 : decode prog_13_method_28_code 4 = .ok (.lcmp, 1) := by decide +kernel
theorem d283_5 : decode prog_13_method_28_code 5 = .ok (.ifCond .lt 15, 3) := by decide +kernel
theorem d283_8 : decode prog_13_method_28_code 8 = .ok (.lload_n 1, 1) := by decide +kernel
theorem d283_9 : decode prog_13_method_28_code 9 = .ok (.ldc2_w 149, 3) := by decide +kernel
theorem d283_12 : decode prog_13_method_28_code 12 = .ok (.lcmp, 1) := by decide +kernel
theorem d283_13 : decode prog_13_method_28_code 13 = .ok (.ifCond .gt 7, 3) := by decide +kernel
theorem d283_16 : decode prog_13_method_28_code 16 = .ok (.iconst 1, 1) := by decide +kernel
theorem d283_17 : decode prog_13_method_28_code 17 = .ok (.goto 4, 3) := by decide +kernel
theorem d283_20 : decode prog_13_method_28_code 20 = .ok (.iconst 0, 1) := by decide +kernel
theorem d283_21 : decode prog_13_method_28_code 21 = .ok (.istore_n 3, 1) := by decide +kernel
theorem d283_22 : decode prog_13_method_28_code 22 = .ok (.aload_n 0, 1) := by decide +kernel
theorem d283_23 : decode prog_13_method_28_code 23 = .ok (.aload_n 0, 1) := by decide +kernel
theorem d283_24 : decode prog_13_method_28_code 24 = .ok (.getfield 151, 3) := by decide +kernel
theorem f283_151 : xFd (xMo 283) 151 = some (11, 24) := by decide +kernel
theorem d283_27 : decode prog_13_method_28_code 27 = .ok (.ifCond .ne 11, 3) := by decide +kernel
theorem d283_30 : decode prog_13_method_28_code 30 = .ok (.iload_n 3, 1) := by decide +kernel
theorem d283_31 : decode prog_13_method_28_code 31 = .ok (.ifCond .ne 7, 3) := by decide +kernel
theorem d283_34 : decode prog_13_method_28_code 34 = .ok (.iconst 2, 1) := by decide +kernel
theorem d283_35 : decode prog_13_method_28_code 35 = .ok (.goto 7, 3) := by decide +kernel
theorem d283_38 : decode prog_13_method_28_code 38 = .ok (.aload_n 0, 1) := by decide +kernel
theorem d283_39 : decode prog_13_method_28_code 39 = .ok (.getfield 151, 3) := by decide +kernel
theorem d283_42 : decode prog_13_method_28_code 42 = .ok (.putfield 151, 3) := by decide +kernel
theorem d283_45 : decode prog_13_method_28_code 45 = .ok (.aload_n 0, 1) := by decide +kernel
theorem d283_46 : decode prog_13_method_28_code 46 = .ok (.getfield 50, 3) := by decide +kernel
theorem f283_50 : xFd (xMo 283) 50 = some (11, 18) := by decide +kernel
theorem d283_49 : decode prog_13_method_28_code 49 = .ok (.aload_n 0, 1) := by decide +kernel
theorem d283_50 : decode prog_13_method_28_code 50 = .ok (.getfield 154, 3) := by decide +kernel
theorem f283_154 : xFd (xMo 283) 154 = some (11, 22) := by decide +kernel
theorem d283_53 : decode prog_13_method_28_code 53 = .ok (.lload_n 1, 1) := by decide +kernel
theorem d283_54 : decode prog_13_method_28_code 54 = .ok (.lastore, 1) := by decide +kernel
theorem d283_55 : decode prog_13_method_28_code 55 = .ok (.aload_n 0, 1) := by decide +kernel
theorem d283_56 : decode prog_13_method_28_code 56 = .ok (.dup, 1) := by decide +kernel
theorem d283_57 : decode prog_13_method_28_code 57 = .ok (.getfield 154, 3) := by decide +kernel
theorem d283_60 : decode prog_13_method_28_code 60 = .ok (.iconst 1, 1) := by decide +kernel
theorem d283_61 : decode prog_13_method_28_code 61 = .ok (.iadd, 1) := by decide +kernel
theorem d283_62 : decode prog_13_method_28_code 62 = .ok (.putfield 154, 3) := by decide +kernel
theorem d283_65 : decode prog_13_method_28_code 65 = .ok (.return_, 1) := by decide +kernel
set_option maxRecDepth 100000 in
theorem q284 : xMc 284 = prog_13_method_44_code := rfl
theorem m284 : xMl 284 = 4 ∧ xMret 284 = none ∧ xMh 284 = [] := by decide +kernel
theorem e284 {X : xX} {d : Nat} {w : xH} {Q : xO → xH → Prop} (a : Nat) (x0 : Int32) : Cw X d 284 [.ref a, .int x0] w Q = Wx X d 284 0 [some (.ref a), some (.int x0), none, none] [] w Q := by
  unfold Cw
  rw [m284.1]
  rfl
theorem d284_0 : decode prog_13_method_44_code 0 = .ok (.aload_n 0, 1) := by decide +kernel
theorem d284_1 : decode prog_13_method_44_code 1 = .ok (.iload_n 1, 1) := by decide +kernel
theorem d284_2 : decode prog_13_method_44_code 2 = .ok (.aload_n 0, 1) := by decide +kernel
theorem d284_3 : decode prog_13_method_44_code 3 = .ok (.getfield 188, 3) := by decide +kernel
theorem f284_188 : xFd (xMo 284) 188 = some (11, 25) := by decide +kernel
theorem d284_6 : decode prog_13_method_44_code 6 = .ok (.invokevirtual 111, 3) := by decide +kernel
theorem k284_111_11 : xCa (xMo 284) 111 11 = some (1, 222, 2) := by decide +kernel
theorem n284_111 : xcn (xMo 284) 111 = some 2 := by decide +kernel
theorem d284_9 : decode prog_13_method_44_code 9 = .ok (.istore_n 2, 1) := by decide +kernel
theorem d284_10 : decode prog_13_method_44_code 10 = .ok (.iload_n 2, 1) := by decide +kernel
theorem d284_11 : decode prog_13_method_44_code 11 = .ok (.bipush 44, 2) := by decide +kernel
theorem d284_13 : decode prog_13_method_44_code 13 = .ok (.if_icmp .eq 9, 3) := by decide +kernel
theorem d284_16 : decode prog_13_method_44_code 16 = .ok (.iload_n 2, 1) := by decide +kernel
theorem d284_17 : decode prog_13_method_44_code 17 = .ok (.bipush 41, 2) := by decide +kernel
theorem d284_19 : decode prog_13_method_44_code 19 = .ok (.if_icmp .ne 106, 3) := by decide +kernel
theorem d284_22 : decode prog_13_method_44_code 22 = .ok (.aload_n 0, 1) := by decide +kernel
theorem d284_23 : decode prog_13_method_44_code 23 = .ok (.iconst 1, 1) := by decide +kernel
theorem d284_24 : decode prog_13_method_44_code 24 = .ok (.invokevirtual 211, 3) := by decide +kernel
theorem k284_211_11 : xCa (xMo 284) 211 11 = some (1, 285, 1) := by decide +kernel
theorem n284_211 : xcn (xMo 284) 211 = some 1 := by decide +kernel
theorem d284_27 : decode prog_13_method_44_code 27 = .ok (.aload_n 0, 1) := by decide +kernel
theorem d284_28 : decode prog_13_method_44_code 28 = .ok (.getfield 151, 3) := by decide +kernel
theorem f284_151 : xFd (xMo 284) 151 = some (11, 24) := by decide +kernel
theorem d284_31 : decode prog_13_method_44_code 31 = .ok (.ifCond .le 4, 3) := by decide +kernel
theorem d284_34 : decode prog_13_method_44_code 34 = .ok (.return_, 1) := by decide +kernel
theorem d284_35 : decode prog_13_method_44_code 35 = .ok (.aload_n 0, 1) := by decide +kernel
theorem d284_36 : decode prog_13_method_44_code 36 = .ok (.getfield 53, 3) := by decide +kernel
theorem f284_53 : xFd (xMo 284) 53 = some (11, 19) := by decide +kernel
theorem d284_39 : decode prog_13_method_44_code 39 = .ok (.aload_n 0, 1) := by decide +kernel
theorem d284_40 : decode prog_13_method_44_code 40 = .ok (.getfield 157, 3) := by decide +kernel
theorem f284_157 : xFd (xMo 284) 157 = some (11, 23) := by decide +kernel
theorem d284_43 : decode prog_13_method_44_code 43 = .ok (.iconst 1, 1) := by decide +kernel
theorem d284_44 : decode prog_13_method_44_code 44 = .ok (.isub, 1) := by decide +kernel
theorem d284_45 : decode prog_13_method_44_code 45 = .ok (.iaload, 1) := by decide +kernel
theorem d284_46 : decode prog_13_method_44_code 46 = .ok (.istore_n 3, 1) := by decide +kernel
theorem d284_47 : decode prog_13_method_44_code 47 = .ok (.iload_n 3, 1) := by decide +kernel
theorem d284_48 : decode prog_13_method_44_code 48 = .ok (.sipush 205, 3) := by decide +kernel
theorem d284_51 : decode prog_13_method_44_code 51 = .ok (.if_icmp .ne 15, 3) := by decide +kernel
theorem d284_54 : decode prog_13_method_44_code 54 = .ok (.iload_n 2, 1) := by decide +kernel
theorem d284_55 : decode prog_13_method_44_code 55 = .ok (.bipush 44, 2) := by decide +kernel
theorem d284_57 : decode prog_13_method_44_code 57 = .ok (.if_icmp .ne 9, 3) := by decide +kernel
theorem d284_60 : decode prog_13_method_44_code 60 = .ok (.aload_n 0, 1) := by decide +kernel
theorem d284_61 : decode prog_13_method_44_code 61 = .ok (.iload_n 1, 1) := by decide +kernel
theorem d284_62 : decode prog_13_method_44_code 62 = .ok (.invokevirtual 214, 3) := by decide +kernel
theorem k284_214_11 : xCa (xMo 284) 214 11 = some (1, 291, 1) := by decide +kernel
theorem n284_214 : xcn (xMo 284) 214 = some 1 := by decide +kernel
theorem d284_65 : decode prog_13_method_44_code 65 = .ok (.return_, 1) := by decide +kernel
theorem d284_66 : decode prog_13_method_44_code 66 = .ok (.iload_n 3, 1) := by decide +kernel
theorem d284_67 : decode prog_13_method_44_code 67 = .ok (.bipush 40, 2) := by decide +kernel
theorem d284_69 : decode prog_13_method_44_code 69 = .ok (.if_icmp .ne 16, 3) := by decide +kernel
theorem d284_72 : decode prog_13_method_44_code 72 = .ok (.aload_n 0, 1) := by decide +kernel
theorem d284_73 : decode prog_13_method_44_code 73 = .ok (.dup, 1) := by decide +kernel
theorem d284_74 : decode prog_13_method_44_code 74 = .ok (.getfield 157, 3) := by decide +kernel
theorem d284_77 : decode prog_13_method_44_code 77 = .ok (.iconst 1, 1) := by decide +kernel
theorem d284_78 : decode prog_13_method_44_code 78 = .ok (.isub, 1) := by decide +kernel
theorem d284_79 : decode prog_13_method_44_code 79 = .ok (.putfield 157, 3) := by decide +kernel
theorem d284_82 : decode prog_13_method_44_code 82 = .ok (.goto 25, 3) := by decide +kernel
theorem d284_85 : decode prog_13_method_44_code 85 = .ok (.aload_n 0, 1) := by decide +kernel
theorem d284_86 : decode prog_13_method_44_code 86 = .ok (.iload_n 1, 1) := by decide +kernel
theorem d284_87 : decode prog_13_method_44_code 87 = .ok (.invokevirtual 217, 3) := by decide +kernel
theorem k284_217_11 : xCa (xMo 284) 217 11 = some (1, 293, 1) := by decide +kernel
theorem n284_217 : xcn (xMo 284) 217 = some 1 := by decide +kernel
theorem d284_90 : decode prog_13_method_44_code 90 = .ok (.iload_n 2, 1) := by decide +kernel
theorem d284_91 : decode prog_13_method_44_code 91 = .ok (.bipush 41, 2) := by decide +kernel
theorem d284_93 : decode prog_13_method_44_code 93 = .ok (.if_icmp .ne 14, 3) := by decide +kernel
theorem d284_96 : decode prog_13_method_44_code 96 = .ok (.aload_n 0, 1) := by decide +kernel
theorem d284_97 : decode prog_13_method_44_code 97 = .ok (.getfield 151, 3) := by decide +kernel
theorem d284_100 : decode prog_13_method_44_code 100 = .ok (.ifCond .ne 7, 3) := by decide +kernel
theorem d284_103 : decode prog_13_method_44_code 103 = .ok (.aload_n 0, 1) := by decide +kernel
theorem d284_104 : decode prog_13_method_44_code 104 = .ok (.invokevirtual 220, 3) := by decide +kernel
theorem k284_220_11 : xCa (xMo 284) 220 11 = some (1, 295, 0) := by decide +kernel
theorem n284_220 : xcn (xMo 284) 220 = some 0 := by decide +kernel
theorem d284_107 : decode prog_13_method_44_code 107 = .ok (.aload_n 0, 1) := by decide +kernel
theorem d284_108 : decode prog_13_method_44_code 108 = .ok (.iload_n 2, 1) := by decide +kernel
theorem d284_109 : decode prog_13_method_44_code 109 = .ok (.bipush 44, 2) := by decide +kernel
theorem d284_111 : decode prog_13_method_44_code 111 = .ok (.if_icmp .ne 7, 3) := by decide +kernel
theorem d284_114 : decode prog_13_method_44_code 114 = .ok (.iconst 1, 1) := by decide +kernel
theorem d284_115 : decode prog_13_method_44_code 115 = .ok (.goto 4, 3) := by decide +kernel
theorem d284_118 : decode prog_13_method_44_code 118 = .ok (.iconst 0, 1) := by decide +kernel
theorem d284_119 : decode prog_13_method_44_code 119 = .ok (.putfield 200, 3) := by decide +kernel
theorem f284_200 : xFd (xMo 284) 200 = some (11, 26) := by decide +kernel
theorem d284_122 : decode prog_13_method_44_code 122 = .ok (.goto 21, 3) := by decide +kernel
theorem d284_125 : decode prog_13_method_44_code 125 = .ok (.aload_n 0, 1) := by decide +kernel
theorem d284_126 : decode prog_13_method_44_code 126 = .ok (.iload_n 2, 1) := by decide +kernel
theorem d284_127 : decode prog_13_method_44_code 127 = .ok (.invokestatic 176, 3) := by decide +kernel
theorem k284_176_99 : xCa (xMo 284) 176 99 = some (0, 286, 1) := by decide +kernel
theorem d284_130 : decode prog_13_method_44_code 130 = .ok (.invokevirtual 211, 3) := by decide +kernel
theorem d284_133 : decode prog_13_method_44_code 133 = .ok (.aload_n 0, 1) := by decide +kernel
theorem d284_134 : decode prog_13_method_44_code 134 = .ok (.iload_n 2, 1) := by decide +kernel
theorem d284_135 : decode prog_13_method_44_code 135 = .ok (.invokevirtual 191, 3) := by decide +kernel
theorem k284_191_11 : xCa (xMo 284) 191 11 = some (1, 278, 1) := by decide +kernel
theorem n284_191 : xcn (xMo 284) 191 = some 1 := by decide +kernel
theorem d284_138 : decode prog_13_method_44_code 138 = .ok (.aload_n 0, 1) := by decide +kernel
theorem d284_139 : decode prog_13_method_44_code 139 = .ok (.iconst 1, 1) := by decide +kernel
theorem d284_140 : decode prog_13_method_44_code 140 = .ok (.putfield 200, 3) := by decide +kernel
theorem d284_143 : decode prog_13_method_44_code 143 = .ok (.aload_n 0, 1) := by decide +kernel
theorem d284_144 : decode prog_13_method_44_code 144 = .ok (.dup, 1) := by decide +kernel
theorem d284_145 : decode prog_13_method_44_code 145 = .ok (.getfield 188, 3) := by decide +kernel
theorem d284_148 : decode prog_13_method_44_code 148 = .ok (.iconst 1, 1) := by decide +kernel
theorem d284_149 : decode prog_13_method_44_code 149 = .ok (.iadd, 1) := by decide +kernel
theorem d284_150 : decode prog_13_method_44_code 150 = .ok (.putfield 188, 3) := by decide +kernel
theorem d284_153 : decode prog_13_method_44_code 153 = .ok (.return_, 1) := by decide +kernel
set_option maxRecDepth 100000 in
theorem q285 : xMc 285 = prog_13_method_33_code := rfl
theorem m285 : xMl 285 = 2 ∧ xMret 285 = none ∧ xMh 285 = [] := by decide +kernel
theorem e285 {X : xX} {d : Nat} {w : xH} {Q : xO → xH → Prop} (a : Nat) (x0 : Int32) : Cw X d 285 [.ref a, .int x0] w Q = Wx X d 285 0 [some (.ref a), some (.int x0)] [] w Q := by
  unfold Cw
  rw [m285.1]
  rfl
theorem d285_0 : decode prog_13_method_33_code 0 = .ok (.aload_n 0, 1) := by decide +kernel
theorem d285_1 : decode prog_13_method_33_code 1 = .ok (.getfield 151, 3) := by decide +kernel
theorem f285_151 : xFd (xMo 285) 151 = some (11, 24) := by decide +kernel
theorem d285_4 : decode prog_13_method_33_code 4 = .ok (.ifCond .ne 35, 3) := by decide +kernel
theorem d285_7 : decode prog_13_method_33_code 7 = .ok (.aload_n 0, 1) := by decide +kernel
theorem d285_8 : decode prog_13_method_33_code 8 = .ok (.getfield 157, 3) := by decide +kernel
theorem f285_157 : xFd (xMo 285) 157 = some (11, 23) := by decide +kernel
theorem d285_11 : decode prog_13_method_33_code 11 = .ok (.ifCond .le 28, 3) := by decide +kernel
theorem d285_14 : decode prog_13_method_33_code 14 = .ok (.aload_n 0, 1) := by decide +kernel
theorem d285_15 : decode prog_13_method_33_code 15 = .ok (.getfield 53, 3) := by decide +kernel
theorem f285_53 : xFd (xMo 285) 53 = some (11, 19) := by decide +kernel
theorem d285_18 : decode prog_13_method_33_code 18 = .ok (.aload_n 0, 1) := by decide +kernel
theorem d285_19 : decode prog_13_method_33_code 19 = .ok (.getfield 157, 3) := by decide +kernel
theorem d285_22 : decode prog_13_method_33_code 22 = .ok (.iconst 1, 1) := by decide +kernel
theorem d285_23 : decode prog_13_method_33_code 23 = .ok (.isub, 1) := by decide +kernel
theorem d285_24 : decode prog_13_method_33_code 24 = .ok (.iaload, 1) := by decide +kernel
theorem d285_25 : decode prog_13_method_33_code 25 = .ok (.invokestatic 176, 3) := by decide +kernel
theorem k285_176_99 : xCa (xMo 285) 176 99 = some (0, 286, 1) := by decide +kernel
theorem d285_28 : decode prog_13_method_33_code 28 = .ok (.iload_n 1, 1) := by decide +kernel
theorem d285_29 : decode prog_13_method_33_code 29 = .ok (.if_icmp .lt 10, 3) := by decide +kernel
theorem d285_32 : decode prog_13_method_33_code 32 = .ok (.aload_n 0, 1) := by decide +kernel
theorem d285_33 : decode prog_13_method_33_code 33 = .ok (.invokevirtual 179, 3) := by decide +kernel
theorem k285_179_11 : xCa (xMo 285) 179 11 = some (1, 287, 0) := by decide +kernel
theorem n285_179 : xcn (xMo 285) 179 = some 0 := by decide +kernel
theorem d285_36 : decode prog_13_method_33_code 36 = .ok (.goto (-36), 3) := by decide +kernel
theorem d285_39 : decode prog_13_method_33_code 39 = .ok (.return_, 1) := by decide +kernel
set_option maxRecDepth 100000 in
theorem q286 : xMc 286 = prog_13_method_27_code := rfl
theorem m286 : xMl 286 = 1 ∧ xMret 286 = (some FieldType.int) ∧ xMh 286 = [] := by decide +kernel
theorem e286 {X : xX} {d : Nat} {w : xH} {Q : xO → xH → Prop} (x0 : Int32) : Cw X d 286 [.int x0] w Q = Wx X d 286 0 [some (.int x0)] [] w Q := by
  unfold Cw
  rw [m286.1]
  rfl
theorem d286_0 : decode prog_13_method_27_code 0 = .ok (.iload_n 0, 1) := by decide +kernel
theorem d286_1 : decode prog_13_method_27_code 1 = .ok (.lookupswitch 83 #[(42, 77), (43, 79), (45, 79), (47, 77), (60, 81), (61, 81), (62, 81), (210, 75)], 75) := by decide +kernel
theorem d286_76 : decode prog_13_method_27_code 76 = .ok (.iconst 4, 1) := by decide +kernel
theorem d286_77 : decode prog_13_method_27_code 77 = .ok (.ireturn, 1) := by decide +kernel
theorem d286_78 : decode prog_13_method_27_code 78 = .ok (.iconst 3, 1) := by decide +kernel
theorem d286_79 : decode prog_13_method_27_code 79 = .ok (.ireturn, 1) := by decide +kernel
theorem d286_80 : decode prog_13_method_27_code 80 = .ok (.iconst 2, 1) := by decide +kernel
theorem d286_81 : decode prog_13_method_27_code 81 = .ok (.ireturn, 1) := by decide +kernel
theorem d286_82 : decode prog_13_method_27_code 82 = .ok (.iconst 1, 1) := by decide +kernel
theorem d286_83 : decode prog_13_method_27_code 83 = .ok (.ireturn, 1) := by decide +kernel
theorem d286_84 : decode prog_13_method_27_code 84 = .ok (.iconst 0, 1) := by decide +kernel
theorem d286_85 : decode prog_13_method_27_code 85 = .ok (.ireturn, 1) := by decide +kernel
set_option maxRecDepth 100000 in
theorem q287 : xMc 287 = prog_13_method_32_code := rfl
theorem m287 : xMl 287 = 6 ∧ xMret 287 = none ∧ xMh 287 = [] := by decide +kernel
theorem e287 {X : xX} {d : Nat} {w : xH} {Q : xO → xH → Prop} (a : Nat) : Cw X d 287 [.ref a] w Q = Wx X d 287 0 [some (.ref a), none, none, none, none, none] [] w Q := by
  unfold Cw
  rw [m287.1]
  rfl
theorem d287_0 : decode prog_13_method_32_code 0 = .ok (.aload_n 0, 1) := by decide +kernel
theorem d287_1 : decode prog_13_method_32_code 1 = .ok (.dup, 1) := by decide +kernel
theorem d287_2 : decode prog_13_method_32_code 2 = .ok (.getfield 157, 3) := by decide +kernel
theorem f287_157 : xFd (xMo 287) 157 = some (11, 23) := by decide +kernel
theorem d287_5 : decode prog_13_method_32_code 5 = .ok (.iconst 1, 1) := by decide +kernel
theorem d287_6 : decode prog_13_method_32_code 6 = .ok (.isub, 1) := by decide +kernel
theorem d287_7 : decode prog_13_method_32_code 7 = .ok (.putfield 157, 3) := by decide +kernel
theorem d287_10 : decode prog_13_method_32_code 10 = .ok (.aload_n 0, 1) := by decide +kernel
theorem d287_11 : decode prog_13_method_32_code 11 = .ok (.getfield 53, 3) := by decide +kernel
theorem f287_53 : xFd (xMo 287) 53 = some (11, 19) := by decide +kernel
theorem d287_14 : decode prog_13_method_32_code 14 = .ok (.aload_n 0, 1) := by decide +kernel
theorem d287_15 : decode prog_13_method_32_code 15 = .ok (.getfield 157, 3) := by decide +kernel
theorem d287_18 : decode prog_13_method_32_code 18 = .ok (.iaload, 1) := by decide +kernel
theorem d287_19 : decode prog_13_method_32_code 19 = .ok (.istore_n 1, 1) := by decide +kernel
theorem d287_20 : decode prog_13_method_32_code 20 = .ok (.aload_n 0, 1) := by decide +kernel
theorem d287_21 : decode prog_13_method_32_code 21 = .ok (.invokevirtual 160, 3) := by decide +kernel
theorem k287_160_11 : xCa (xMo 287) 160 11 = some (1, 288, 0) := by decide +kernel
theorem n287_160 : xcn (xMo 287) 160 = some 0 := by decide +kernel
theorem d287_24 : decode prog_13_method_32_code 24 = .ok (.lstore_n 2, 1) := by decide +kernel
theorem d287_25 : decode prog_13_method_32_code 25 = .ok (.iload_n 1, 1) := by decide +kernel
theorem d287_26 : decode prog_13_method_32_code 26 = .ok (.sipush 210, 3) := by decide +kernel
theorem d287_29 : decode prog_13_method_32_code 29 = .ok (.if_icmp .ne 10, 3) := by decide +kernel
theorem d287_32 : decode prog_13_method_32_code 32 = .ok (.aload_n 0, 1) := by decide +kernel
theorem d287_33 : decode prog_13_method_32_code 33 = .ok (.lload_n 2, 1) := by decide +kernel
theorem d287_34 : decode prog_13_method_32_code 34 = .ok (.lneg, 1) := by decide +kernel
theorem d287_35 : decode prog_13_method_32_code 35 = .ok (.invokevirtual 164, 3) := by decide +kernel
theorem k287_164_11 : xCa (xMo 287) 164 11 = some (1, 283, 1) := by decide +kernel
theorem n287_164 : xcn (xMo 287) 164 = some 1 := by decide +kernel
theorem d287_38 : decode prog_13_method_32_code 38 = .ok (.return_, 1) := by decide +kernel
theorem d287_39 : decode prog_13_method_32_code 39 = .ok (.aload_n 0, 1) := by decide +kernel
theorem d287_40 : decode prog_13_method_32_code 40 = .ok (.invokevirtual 160, 3) := by decide +kernel
theorem d287_43 : decode prog_13_method_32_code 43 = .ok (.lstore 4, 2) := by decide +kernel
theorem d287_45 : decode prog_13_method_32_code 45 = .ok (.iload_n 1, 1) := by decide +kernel
theorem d287_46 : decode prog_13_method_32_code 46 = .ok (.bipush 47, 2) := by decide +kernel
theorem d287_48 : decode prog_13_method_32_code 48 = .ok (.if_icmp .ne 22, 3) := by decide +kernel
theorem d287_51 : decode prog_13_method_32_code 51 = .ok (.lload_n 2, 1) := by decide +kernel
theorem d287_52 : decode prog_13_method_32_code 52 = .ok (.lconst 0, 1) := by decide +kernel
theorem d287_53 : decode prog_13_method_32_code 53 = .ok (.lcmp, 1) := by decide +kernel
theorem d287_54 : decode prog_13_method_32_code 54 = .ok (.ifCond .ne 16, 3) := by decide +kernel
theorem d287_57 : decode prog_13_method_32_code 57 = .ok (.aload_n 0, 1) := by decide +kernel
theorem d287_58 : decode prog_13_method_32_code 58 = .ok (.iconst 1, 1) := by decide +kernel
theorem d287_59 : decode prog_13_method_32_code 59 = .ok (.putfield 151, 3) := by decide +kernel
theorem f287_151 : xFd (xMo 287) 151 = some (11, 24) := by decide +kernel
theorem d287_62 : decode prog_13_method_32_code 62 = .ok (.aload_n 0, 1) := by decide +kernel
theorem d287_63 : decode prog_13_method_32_code 63 = .ok (.lconst 0, 1) := by decide +kernel
theorem d287_64 : decode prog_13_method_32_code 64 = .ok (.invokevirtual 164, 3) := by decide +kernel
theorem d287_67 : decode prog_13_method_32_code 67 = .ok (.goto 29, 3) := by decide +kernel
theorem d287_70 : decode prog_13_method_32_code 70 = .ok (.aload_n 0, 1) := by decide +kernel
theorem d287_71 : decode prog_13_method_32_code 71 = .ok (.iload_n 1, 1) := by decide +kernel
theorem d287_72 : decode prog_13_method_32_code 72 = .ok (.bipush 47, 2) := by decide +kernel
theorem d287_74 : decode prog_13_method_32_code 74 = .ok (.if_icmp .ne 12, 3) := by decide +kernel
theorem d287_77 : decode prog_13_method_32_code 77 = .ok (.lload 4, 2) := by decide +kernel
theorem d287_79 : decode prog_13_method_32_code 79 = .ok (.lload_n 2, 1) := by decide +kernel
theorem d287_80 : decode prog_13_method_32_code 80 = .ok (.invokestatic 168, 3) := by decide +kernel
theorem k287_168_99 : xCa (xMo 287) 168 99 = some (0, 289, 2) := by decide +kernel
theorem d287_83 : decode prog_13_method_32_code 83 = .ok (.goto 10, 3) := by decide +kernel
theorem d287_86 : decode prog_13_method_32_code 86 = .ok (.iload_n 1, 1) := by decide +kernel
theorem d287_87 : decode prog_13_method_32_code 87 = .ok (.lload 4, 2) := by decide +kernel
theorem d287_89 : decode prog_13_method_32_code 89 = .ok (.lload_n 2, 1) := by decide +kernel
theorem d287_90 : decode prog_13_method_32_code 90 = .ok (.invokestatic 172, 3) := by decide +kernel
theorem k287_172_99 : xCa (xMo 287) 172 99 = some (0, 290, 3) := by decide +kernel
theorem d287_93 : decode prog_13_method_32_code 93 = .ok (.invokevirtual 164, 3) := by decide +kernel
theorem d287_96 : decode prog_13_method_32_code 96 = .ok (.return_, 1) := by decide +kernel
set_option maxRecDepth 100000 in
theorem q288 : xMc 288 = prog_13_method_29_code := rfl
theorem m288 : xMl 288 = 1 ∧ xMret 288 = (some FieldType.long) ∧ xMh 288 = [] := by decide +kernel
theorem e288 {X : xX} {d : Nat} {w : xH} {Q : xO → xH → Prop} (a : Nat) : Cw X d 288 [.ref a] w Q = Wx X d 288 0 [some (.ref a)] [] w Q := by
  unfold Cw
  rw [m288.1]
  rfl
theorem d288_0 : decode prog_13_method_29_code 0 = .ok (.aload_n 0, 1) := by decide +kernel
theorem d288_1 : decode prog_13_method_29_code 1 = .ok (.dup, 1) := by decide +kernel
theorem d288_2 : decode prog_13_method_29_code 2 = .ok (.getfield 154, 3) := by decide +kernel
theorem f288_154 : xFd (xMo 288) 154 = some (11, 22) := by decide +kernel
theorem d288_5 : decode prog_13_method_29_code 5 = .ok (.iconst 1, 1) := by decide +kernel
theorem d288_6 : decode prog_13_method_29_code 6 = .ok (.isub, 1) := by decide +kernel
theorem d288_7 : decode prog_13_method_29_code 7 = .ok (.putfield 154, 3) := by decide +kernel
theorem d288_10 : decode prog_13_method_29_code 10 = .ok (.aload_n 0, 1) := by decide +kernel
theorem d288_11 : decode prog_13_method_29_code 11 = .ok (.getfield 50, 3) := by decide +kernel
theorem f288_50 : xFd (xMo 288) 50 = some (11, 18) := by decide +kernel
theorem d288_14 : decode prog_13_method_29_code 14 = .ok (.aload_n 0, 1) := by decide +kernel
theorem d288_15 : decode prog_13_method_29_code 15 = .ok (.getfield 154, 3) := by decide +kernel
theorem d288_18 : decode prog_13_method_29_code 18 = .ok (.laload, 1) := by decide +kernel
theorem d288_19 : decode prog_13_method_29_code 19 = .ok (.lreturn, 1) := by decide +kernel
set_option maxRecDepth 100000 in
theorem q289 : xMc 289 = prog_13_method_31_code := rfl
theorem m289 : xMl 289 = 6 ∧ xMret 289 = (some FieldType.long) ∧ xMh 289 = [] := by decide +kernel
theorem e289 {X : xX} {d : Nat} {w : xH} {Q : xO → xH → Prop} (x0 : Int64) (x1 : Int64) : Cw X d 289 [.long x0, .long x1] w Q = Wx X d 289 0 [some (.long x0), none, some (.long x1), none, none, none] [] w Q := by
  unfold Cw
  rw [m289.1]
  rfl
theorem d289_0 : decode prog_13_method_31_code 0 = .ok (.lload_n 0, 1) := by decide +kernel
theorem d289_1 : decode prog_13_method_31_code 1 = .ok (.lload_n 2, 1) := by decide +kernel
theorem d289_2 : decode prog_13_method_31_code 2 = .ok (.ldiv, 1) := by decide +kernel
theorem d289_3 : decode prog_13_method_31_code 3 = .ok (.lstore 4, 2) := by decide +kernel
theorem d289_5 : decode prog_13_method_31_code 5 = .ok (.lload 4, 2) := by decide +kernel
theorem d289_7 : decode prog_13_method_31_code 7 = .ok (.lload_n 2, 1) := by decide +kernel
theorem d289_8 : decode prog_13_method_31_code 8 = .ok (.lmul, 1) := by decide +kernel
theorem d289_9 : decode prog_13_method_31_code 9 = .ok (.lload_n 0, 1) := by decide +kernel
theorem d289_10 : decode prog_13_method_31_code 10 = .ok (.lcmp, 1) := by decide +kernel
theorem d289_11 : decode prog_13_method_31_code 11 = .ok (.ifCond .eq 35, 3) := by decide +kernel
theorem d289_14 : decode prog_13_method_31_code 14 = .ok (.lload_n 0, 1) := by decide +kernel
theorem d289_15 : decode prog_13_method_31_code 15 = .ok (.lconst 0, 1) := by decide +kernel
theorem d289_16 : decode prog_13_method_31_code 16 = .ok (.lcmp, 1) := by decide +kernel
theorem d289_17 : decode prog_13_method_31_code 17 = .ok (.ifCond .ge 7, 3) := by decide +kernel
theorem d289_20 : decode prog_13_method_31_code 20 = .ok (.iconst 1, 1) := by decide +kernel
theorem d289_21 : decode prog_13_method_31_code 21 = .ok (.goto 4, 3) := by decide +kernel
theorem d289_24 : decode prog_13_method_31_code 24 = .ok (.iconst 0, 1) := by decide +kernel
theorem d289_25 : decode prog_13_method_31_code 25 = .ok (.lload_n 2, 1) := by decide +kernel
theorem d289_26 : decode prog_13_method_31_code 26 = .ok (.lconst 0, 1) := by decide +kernel
theorem d289_27 : decode prog_13_method_31_code 27 = .ok (.lcmp, 1) := by decide +kernel
theorem d289_28 : decode prog_13_method_31_code 28 = .ok (.ifCond .ge 7, 3) := by decide +kernel
theorem d289_31 : decode prog_13_method_31_code 31 = .ok (.iconst 1, 1) := by decide +kernel
theorem d289_32 : decode prog_13_method_31_code 32 = .ok (.goto 4, 3) := by decide +kernel
theorem d289_35 : decode prog_13_method_31_code 35 = .ok (.iconst 0, 1) := by decide +kernel
theorem d289_36 : decode prog_13_method_31_code 36 = .ok (.if_icmp .eq 10, 3) := by decide +kernel
theorem d289_39 : decode prog_13_method_31_code 39 = .ok (.lload 4, 2) := by decide +kernel
theorem d289_41 : decode prog_13_method_31_code 41 = .ok (.lconst 1, 1) := by decide +kernel
theorem d289_42 : decode prog_13_method_31_code 42 = .ok (.lsub, 1) := by decide +kernel
theorem d289_43 : decode prog_13_method_31_code 43 = .ok (.goto 5, 3) := by decide +kernel
theorem d289_46 : decode prog_13_method_31_code 46 = .ok (.lload 4, 2) := by decide +kernel
theorem d289_48 : decode prog_13_method_31_code 48 = .ok (.lreturn, 1) := by decide +kernel
set_option maxRecDepth 100000 in
theorem q290 : xMc 290 = prog_13_method_30_code := rfl
theorem m290 : xMl 290 = 5 ∧ xMret 290 = (some FieldType.long) ∧ xMh 290 = [] := by decide +kernel
theorem e290 {X : xX} {d : Nat} {w : xH} {Q : xO → xH → Prop} (x0 : Int32) (x1 : Int64) (x2 : Int64) : Cw X d 290 [.int x0, .long x1, .long x2] w Q = Wx X d 290 0 [some (.int x0), some (.long x1), none, some (.long x2), none] [] w Q := by
  unfold Cw
  rw [m290.1]
  rfl
theorem d290_0 : decode prog_13_method_30_code 0 = .ok (.iload_n 0, 1) := by decide +kernel
theorem d290_1 : decode prog_13_method_30_code 1 = .ok (.lookupswitch 87 #[(42, 59), (43, 51), (45, 55), (60, 63), (62, 75)], 51) := by decide +kernel
theorem d290_52 : decode prog_13_method_30_code 52 = .ok (.lload_n 1, 1) := by decide +kernel
theorem d290_53 : decode prog_13_method_30_code 53 = .ok (.lload_n 3, 1) := by decide +kernel
theorem d290_54 : decode prog_13_method_30_code 54 = .ok (.ladd, 1) := by decide +kernel
theorem d290_55 : decode prog_13_method_30_code 55 = .ok (.lreturn, 1) := by decide +kernel
theorem d290_56 : decode prog_13_method_30_code 56 = .ok (.lload_n 1, 1) := by decide +kernel
theorem d290_57 : decode prog_13_method_30_code 57 = .ok (.lload_n 3, 1) := by decide +kernel
theorem d290_58 : decode prog_13_method_30_code 58 = .ok (.lsub, 1) := by decide +kernel
theorem d290_59 : decode prog_13_method_30_code 59 = .ok (.lreturn, 1) := by decide +kernel
theorem d290_60 : decode prog_13_method_30_code 60 = .ok (.lload_n 1, 1) := by decide +kernel
theorem d290_61 : decode prog_13_method_30_code 61 = .ok (.lload_n 3, 1) := by decide +kernel
theorem d290_62 : decode prog_13_method_30_code 62 = .ok (.lmul, 1) := by decide +kernel
theorem d290_63 : decode prog_13_method_30_code 63 = .ok (.lreturn, 1) := by decide +kernel
theorem d290_64 : decode prog_13_method_30_code 64 = .ok (.lload_n 1, 1) := by decide +kernel
theorem d290_65 : decode prog_13_method_30_code 65 = .ok (.lload_n 3, 1) := by decide +kernel
theorem d290_66 : decode prog_13_method_30_code 66 = .ok (.lcmp, 1) := by decide +kernel
theorem d290_67 : decode prog_13_method_30_code 67 = .ok (.ifCond .ge 7, 3) := by decide +kernel
theorem d290_70 : decode prog_13_method_30_code 70 = .ok (.lconst 1, 1) := by decide +kernel
theorem d290_71 : decode prog_13_method_30_code 71 = .ok (.goto 4, 3) := by decide +kernel
theorem d290_74 : decode prog_13_method_30_code 74 = .ok (.lconst 0, 1) := by decide +kernel
theorem d290_75 : decode prog_13_method_30_code 75 = .ok (.lreturn, 1) := by decide +kernel
theorem d290_76 : decode prog_13_method_30_code 76 = .ok (.lload_n 1, 1) := by decide +kernel
theorem d290_77 : decode prog_13_method_30_code 77 = .ok (.lload_n 3, 1) := by decide +kernel
theorem d290_78 : decode prog_13_method_30_code 78 = .ok (.lcmp, 1) := by decide +kernel
theorem d290_79 : decode prog_13_method_30_code 79 = .ok (.ifCond .le 7, 3) := by decide +kernel
theorem d290_82 : decode prog_13_method_30_code 82 = .ok (.lconst 1, 1) := by decide +kernel
theorem d290_83 : decode prog_13_method_30_code 83 = .ok (.goto 4, 3) := by decide +kernel
theorem d290_86 : decode prog_13_method_30_code 86 = .ok (.lconst 0, 1) := by decide +kernel
theorem d290_87 : decode prog_13_method_30_code 87 = .ok (.lreturn, 1) := by decide +kernel
theorem d290_88 : decode prog_13_method_30_code 88 = .ok (.lload_n 1, 1) := by decide +kernel
theorem d290_89 : decode prog_13_method_30_code 89 = .ok (.lload_n 3, 1) := by decide +kernel
theorem d290_90 : decode prog_13_method_30_code 90 = .ok (.lcmp, 1) := by decide +kernel
theorem d290_91 : decode prog_13_method_30_code 91 = .ok (.ifCond .ne 7, 3) := by decide +kernel
theorem d290_94 : decode prog_13_method_30_code 94 = .ok (.lconst 1, 1) := by decide +kernel
theorem d290_95 : decode prog_13_method_30_code 95 = .ok (.goto 4, 3) := by decide +kernel
theorem d290_98 : decode prog_13_method_30_code 98 = .ok (.lconst 0, 1) := by decide +kernel
theorem d290_99 : decode prog_13_method_30_code 99 = .ok (.lreturn, 1) := by decide +kernel
set_option maxRecDepth 100000 in
theorem q291 : xMc 291 = prog_13_method_43_code := rfl
theorem m291 : xMl 291 = 3 ∧ xMret 291 = none ∧ xMh 291 = [] := by decide +kernel
theorem e291 {X : xX} {d : Nat} {w : xH} {Q : xO → xH → Prop} (a : Nat) (x0 : Int32) : Cw X d 291 [.ref a, .int x0] w Q = Wx X d 291 0 [some (.ref a), some (.int x0), none] [] w Q := by
  unfold Cw
  rw [m291.1]
  rfl
theorem d291_0 : decode prog_13_method_43_code 0 = .ok (.aload_n 0, 1) := by decide +kernel
theorem d291_1 : decode prog_13_method_43_code 1 = .ok (.getfield 157, 3) := by decide +kernel
theorem f291_157 : xFd (xMo 291) 157 = some (11, 23) := by decide +kernel
theorem d291_4 : decode prog_13_method_43_code 4 = .ok (.iconst 1, 1) := by decide +kernel
theorem d291_5 : decode prog_13_method_43_code 5 = .ok (.isub, 1) := by decide +kernel
theorem d291_6 : decode prog_13_method_43_code 6 = .ok (.istore_n 2, 1) := by decide +kernel
theorem d291_7 : decode prog_13_method_43_code 7 = .ok (.aload_n 0, 1) := by decide +kernel
theorem d291_8 : decode prog_13_method_43_code 8 = .ok (.dup, 1) := by decide +kernel
theorem d291_9 : decode prog_13_method_43_code 9 = .ok (.getfield 188, 3) := by decide +kernel
theorem f291_188 : xFd (xMo 291) 188 = some (11, 25) := by decide +kernel
theorem d291_12 : decode prog_13_method_43_code 12 = .ok (.iconst 1, 1) := by decide +kernel
theorem d291_13 : decode prog_13_method_43_code 13 = .ok (.iadd, 1) := by decide +kernel
theorem d291_14 : decode prog_13_method_43_code 14 = .ok (.putfield 188, 3) := by decide +kernel
theorem d291_17 : decode prog_13_method_43_code 17 = .ok (.aload_n 0, 1) := by decide +kernel
theorem d291_18 : decode prog_13_method_43_code 18 = .ok (.iconst 1, 1) := by decide +kernel
theorem d291_19 : decode prog_13_method_43_code 19 = .ok (.putfield 200, 3) := by decide +kernel
theorem f291_200 : xFd (xMo 291) 200 = some (11, 26) := by decide +kernel
theorem d291_22 : decode prog_13_method_43_code 22 = .ok (.aload_n 0, 1) := by decide +kernel
theorem d291_23 : decode prog_13_method_43_code 23 = .ok (.getfield 59, 3) := by decide +kernel
theorem f291_59 : xFd (xMo 291) 59 = some (11, 21) := by decide +kernel
theorem d291_26 : decode prog_13_method_43_code 26 = .ok (.iload_n 2, 1) := by decide +kernel
theorem d291_27 : decode prog_13_method_43_code 27 = .ok (.iaload, 1) := by decide +kernel
theorem d291_28 : decode prog_13_method_43_code 28 = .ok (.ifCond .ne 38, 3) := by decide +kernel
theorem d291_31 : decode prog_13_method_43_code 31 = .ok (.aload_n 0, 1) := by decide +kernel
theorem d291_32 : decode prog_13_method_43_code 32 = .ok (.invokevirtual 160, 3) := by decide +kernel
theorem k291_160_11 : xCa (xMo 291) 160 11 = some (1, 288, 0) := by decide +kernel
theorem n291_160 : xcn (xMo 291) 160 = some 0 := by decide +kernel
theorem d291_35 : decode prog_13_method_43_code 35 = .ok (.lconst 0, 1) := by decide +kernel
theorem d291_36 : decode prog_13_method_43_code 36 = .ok (.lcmp, 1) := by decide +kernel
theorem d291_37 : decode prog_13_method_43_code 37 = .ok (.ifCond .ne 29, 3) := by decide +kernel
theorem d291_40 : decode prog_13_method_43_code 40 = .ok (.aload_n 0, 1) := by decide +kernel
theorem d291_41 : decode prog_13_method_43_code 41 = .ok (.iload_n 1, 1) := by decide +kernel
theorem d291_42 : decode prog_13_method_43_code 42 = .ok (.iconst 0, 1) := by decide +kernel
theorem d291_43 : decode prog_13_method_43_code 43 = .ok (.invokevirtual 207, 3) := by decide +kernel
theorem k291_207_11 : xCa (xMo 291) 207 11 = some (1, 292, 2) := by decide +kernel
theorem n291_207 : xcn (xMo 291) 207 = some 2 := by decide +kernel
theorem d291_46 : decode prog_13_method_43_code 46 = .ok (.aload_n 0, 1) := by decide +kernel
theorem d291_47 : decode prog_13_method_43_code 47 = .ok (.dup, 1) := by decide +kernel
theorem d291_48 : decode prog_13_method_43_code 48 = .ok (.getfield 188, 3) := by decide +kernel
theorem d291_51 : decode prog_13_method_43_code 51 = .ok (.iconst 1, 1) := by decide +kernel
theorem d291_52 : decode prog_13_method_43_code 52 = .ok (.iadd, 1) := by decide +kernel
theorem d291_53 : decode prog_13_method_43_code 53 = .ok (.putfield 188, 3) := by decide +kernel
theorem d291_56 : decode prog_13_method_43_code 56 = .ok (.aload_n 0, 1) := by decide +kernel
theorem d291_57 : decode prog_13_method_43_code 57 = .ok (.getfield 59, 3) := by decide +kernel
theorem d291_60 : decode prog_13_method_43_code 60 = .ok (.iload_n 2, 1) := by decide +kernel
theorem d291_61 : decode prog_13_method_43_code 61 = .ok (.iconst 2, 1) := by decide +kernel
theorem d291_62 : decode prog_13_method_43_code 62 = .ok (.iastore, 1) := by decide +kernel
theorem d291_63 : decode prog_13_method_43_code 63 = .ok (.goto 53, 3) := by decide +kernel
theorem d291_66 : decode prog_13_method_43_code 66 = .ok (.aload_n 0, 1) := by decide +kernel
theorem d291_67 : decode prog_13_method_43_code 67 = .ok (.getfield 59, 3) := by decide +kernel
theorem d291_70 : decode prog_13_method_43_code 70 = .ok (.iload_n 2, 1) := by decide +kernel
theorem d291_71 : decode prog_13_method_43_code 71 = .ok (.iaload, 1) := by decide +kernel
theorem d291_72 : decode prog_13_method_43_code 72 = .ok (.ifCond .ne 13, 3) := by decide +kernel
theorem d291_75 : decode prog_13_method_43_code 75 = .ok (.aload_n 0, 1) := by decide +kernel
theorem d291_76 : decode prog_13_method_43_code 76 = .ok (.getfield 59, 3) := by decide +kernel
theorem d291_79 : decode prog_13_method_43_code 79 = .ok (.iload_n 2, 1) := by decide +kernel
theorem d291_80 : decode prog_13_method_43_code 80 = .ok (.iconst 1, 1) := by decide +kernel
theorem d291_81 : decode prog_13_method_43_code 81 = .ok (.iastore, 1) := by decide +kernel
theorem d291_82 : decode prog_13_method_43_code 82 = .ok (.goto 34, 3) := by decide +kernel
theorem d291_85 : decode prog_13_method_43_code 85 = .ok (.aload_n 0, 1) := by decide +kernel
theorem d291_86 : decode prog_13_method_43_code 86 = .ok (.iload_n 1, 1) := by decide +kernel
theorem d291_87 : decode prog_13_method_43_code 87 = .ok (.iconst 1, 1) := by decide +kernel
theorem d291_88 : decode prog_13_method_43_code 88 = .ok (.invokevirtual 207, 3) := by decide +kernel
theorem d291_91 : decode prog_13_method_43_code 91 = .ok (.aload_n 0, 1) := by decide +kernel
theorem d291_92 : decode prog_13_method_43_code 92 = .ok (.iconst 0, 1) := by decide +kernel
theorem d291_93 : decode prog_13_method_43_code 93 = .ok (.putfield 200, 3) := by decide +kernel
theorem d291_96 : decode prog_13_method_43_code 96 = .ok (.aload_n 0, 1) := by decide +kernel
theorem d291_97 : decode prog_13_method_43_code 97 = .ok (.dup, 1) := by decide +kernel
theorem d291_98 : decode prog_13_method_43_code 98 = .ok (.getfield 188, 3) := by decide +kernel
theorem d291_101 : decode prog_13_method_43_code 101 = .ok (.iconst 1, 1) := by decide +kernel
theorem d291_102 : decode prog_13_method_43_code 102 = .ok (.iadd, 1) := by decide +kernel
theorem d291_103 : decode prog_13_method_43_code 103 = .ok (.putfield 188, 3) := by decide +kernel
theorem d291_106 : decode prog_13_method_43_code 106 = .ok (.aload_n 0, 1) := by decide +kernel
theorem d291_107 : decode prog_13_method_43_code 107 = .ok (.dup, 1) := by decide +kernel
theorem d291_108 : decode prog_13_method_43_code 108 = .ok (.getfield 157, 3) := by decide +kernel
theorem d291_111 : decode prog_13_method_43_code 111 = .ok (.iconst 1, 1) := by decide +kernel
theorem d291_112 : decode prog_13_method_43_code 112 = .ok (.isub, 1) := by decide +kernel
theorem d291_113 : decode prog_13_method_43_code 113 = .ok (.putfield 157, 3) := by decide +kernel
theorem d291_116 : decode prog_13_method_43_code 116 = .ok (.return_, 1) := by decide +kernel
set_option maxRecDepth 100000 in
theorem q292 : xMc 292 = prog_13_method_38_code := rfl
theorem m292 : xMl 292 = 6 ∧ xMret 292 = none ∧ xMh 292 = [] := by decide +kernel
theorem e292 {X : xX} {d : Nat} {w : xH} {Q : xO → xH → Prop} (a : Nat) (x0 : Int32) (x1 : Int32) : Cw X d 292 [.ref a, .int x0, .int x1] w Q = Wx X d 292 0 [some (.ref a), some (.int x0), some (.int x1), none, none, none] [] w Q := by
  unfold Cw
  rw [m292.1]
  rfl
theorem d292_0 : decode prog_13_method_38_code 0 = .ok (.iconst 0, 1) := by decide +kernel
theorem d292_1 : decode prog_13_method_38_code 1 = .ok (.istore_n 3, 1) := by decide +kernel
theorem d292_2 : decode prog_13_method_38_code 2 = .ok (.iconst 1, 1) := by decide +kernel
theorem d292_3 : decode prog_13_method_38_code 3 = .ok (.istore 4, 2) := by decide +kernel
theorem d292_5 : decode prog_13_method_38_code 5 = .ok (.iload 4, 2) := by decide +kernel
theorem d292_7 : decode prog_13_method_38_code 7 = .ok (.ifCond .eq 88, 3) := by decide +kernel
theorem d292_10 : decode prog_13_method_38_code 10 = .ok (.aload_n 0, 1) := by decide +kernel
theorem d292_11 : decode prog_13_method_38_code 11 = .ok (.iload_n 1, 1) := by decide +kernel
theorem d292_12 : decode prog_13_method_38_code 12 = .ok (.aload_n 0, 1) := by decide +kernel
theorem d292_13 : decode prog_13_method_38_code 13 = .ok (.getfield 188, 3) := by decide +kernel
theorem f292_188 : xFd (xMo 292) 188 = some (11, 25) := by decide +kernel
theorem d292_16 : decode prog_13_method_38_code 16 = .ok (.invokevirtual 111, 3) := by decide +kernel
theorem k292_111_11 : xCa (xMo 292) 111 11 = some (1, 222, 2) := by decide +kernel
theorem n292_111 : xcn (xMo 292) 111 = some 2 := by decide +kernel
theorem d292_19 : decode prog_13_method_38_code 19 = .ok (.istore 5, 2) := by decide +kernel
theorem d292_21 : decode prog_13_method_38_code 21 = .ok (.iload_n 3, 1) := by decide +kernel
theorem d292_22 : decode prog_13_method_38_code 22 = .ok (.iload 5, 2) := by decide +kernel
theorem d292_24 : decode prog_13_method_38_code 24 = .ok (.bipush 40, 2) := by decide +kernel
theorem d292_26 : decode prog_13_method_38_code 26 = .ok (.if_icmp .ne 7, 3) := by decide +kernel
theorem d292_29 : decode prog_13_method_38_code 29 = .ok (.iconst 1, 1) := by decide +kernel
theorem d292_30 : decode prog_13_method_38_code 30 = .ok (.goto 15, 3) := by decide +kernel
theorem d292_33 : decode prog_13_method_38_code 33 = .ok (.iload 5, 2) := by decide +kernel
theorem d292_35 : decode prog_13_method_38_code 35 = .ok (.bipush 41, 2) := by decide +kernel
theorem d292_37 : decode prog_13_method_38_code 37 = .ok (.if_icmp .ne 7, 3) := by decide +kernel
theorem d292_40 : decode prog_13_method_38_code 40 = .ok (.iconst (-1), 1) := by decide +kernel
theorem d292_41 : decode prog_13_method_38_code 41 = .ok (.goto 4, 3) := by decide +kernel
theorem d292_44 : decode prog_13_method_38_code 44 = .ok (.iconst 0, 1) := by decide +kernel
theorem d292_45 : decode prog_13_method_38_code 45 = .ok (.iadd, 1) := by decide +kernel
theorem d292_46 : decode prog_13_method_38_code 46 = .ok (.istore_n 3, 1) := by decide +kernel
theorem d292_47 : decode prog_13_method_38_code 47 = .ok (.iload_n 3, 1) := by decide +kernel
theorem d292_48 : decode prog_13_method_38_code 48 = .ok (.ifCond .lt 22, 3) := by decide +kernel
theorem d292_51 : decode prog_13_method_38_code 51 = .ok (.iload_n 2, 1) := by decide +kernel
theorem d292_52 : decode prog_13_method_38_code 52 = .ok (.ifCond .ne 14, 3) := by decide +kernel
theorem d292_55 : decode prog_13_method_38_code 55 = .ok (.iload_n 3, 1) := by decide +kernel
theorem d292_56 : decode prog_13_method_38_code 56 = .ok (.ifCond .gt 10, 3) := by decide +kernel
theorem d292_59 : decode prog_13_method_38_code 59 = .ok (.iload 5, 2) := by decide +kernel
theorem d292_61 : decode prog_13_method_38_code 61 = .ok (.bipush 44, 2) := by decide +kernel
theorem d292_63 : decode prog_13_method_38_code 63 = .ok (.if_icmp .eq 7, 3) := by decide +kernel
theorem d292_66 : decode prog_13_method_38_code 66 = .ok (.iconst 1, 1) := by decide +kernel
theorem d292_67 : decode prog_13_method_38_code 67 = .ok (.goto 4, 3) := by decide +kernel
theorem d292_70 : decode prog_13_method_38_code 70 = .ok (.iconst 0, 1) := by decide +kernel
theorem d292_71 : decode prog_13_method_38_code 71 = .ok (.istore 4, 2) := by decide +kernel
theorem d292_73 : decode prog_13_method_38_code 73 = .ok (.aload_n 0, 1) := by decide +kernel
theorem d292_74 : decode prog_13_method_38_code 74 = .ok (.dup, 1) := by decide +kernel
theorem d292_75 : decode prog_13_method_38_code 75 = .ok (.getfield 188, 3) := by decide +kernel
theorem d292_78 : decode prog_13_method_38_code 78 = .ok (.iload 4, 2) := by decide +kernel
theorem d292_80 : decode prog_13_method_38_code 80 = .ok (.ifCond .eq 7, 3) := by decide +kernel
theorem d292_83 : decode prog_13_method_38_code 83 = .ok (.iconst 1, 1) := by decide +kernel
theorem d292_84 : decode prog_13_method_38_code 84 = .ok (.goto 4, 3) := by decide +kernel
theorem d292_87 : decode prog_13_method_38_code 87 = .ok (.iconst 0, 1) := by decide +kernel
theorem d292_88 : decode prog_13_method_38_code 88 = .ok (.iadd, 1) := by decide +kernel
theorem d292_89 : decode prog_13_method_38_code 89 = .ok (.putfield 188, 3) := by decide +kernel
theorem d292_92 : decode prog_13_method_38_code 92 = .ok (.goto (-87), 3) := by decide +kernel
theorem d292_95 : decode prog_13_method_38_code 95 = .ok (.return_, 1) := by decide +kernel
set_option maxRecDepth 100000 in
theorem q293 : xMc 293 = prog_13_method_41_code := rfl
theorem m293 : xMl 293 = 3 ∧ xMret 293 = none ∧ xMh 293 = [] := by decide +kernel
theorem e293 {X : xX} {d : Nat} {w : xH} {Q : xO → xH → Prop} (a : Nat) (x0 : Int32) : Cw X d 293 [.ref a, .int x0] w Q = Wx X d 293 0 [some (.ref a), some (.int x0), none] [] w Q := by
  unfold Cw
  rw [m293.1]
  rfl
theorem d293_0 : decode prog_13_method_41_code 0 = .ok (.aload_n 0, 1) := by decide +kernel
theorem d293_1 : decode prog_13_method_41_code 1 = .ok (.getfield 53, 3) := by decide +kernel
theorem f293_53 : xFd (xMo 293) 53 = some (11, 19) := by decide +kernel
theorem d293_4 : decode prog_13_method_41_code 4 = .ok (.aload_n 0, 1) := by decide +kernel
theorem d293_5 : decode prog_13_method_41_code 5 = .ok (.getfield 157, 3) := by decide +kernel
theorem f293_157 : xFd (xMo 293) 157 = some (11, 23) := by decide +kernel
theorem d293_8 : decode prog_13_method_41_code 8 = .ok (.iconst 1, 1) := by decide +kernel
theorem d293_9 : decode prog_13_method_41_code 9 = .ok (.isub, 1) := by decide +kernel
theorem d293_10 : decode prog_13_method_41_code 10 = .ok (.iaload, 1) := by decide +kernel
theorem d293_11 : decode prog_13_method_41_code 11 = .ok (.istore_n 2, 1) := by decide +kernel
theorem d293_12 : decode prog_13_method_41_code 12 = .ok (.iload_n 2, 1) := by decide +kernel
theorem d293_13 : decode prog_13_method_41_code 13 = .ok (.sipush 204, 3) := by decide +kernel
theorem d293_16 : decode prog_13_method_41_code 16 = .ok (.if_icmp .ge 19, 3) := by decide +kernel
theorem d293_19 : decode prog_13_method_41_code 19 = .ok (.aload_n 0, 1) := by decide +kernel
theorem d293_20 : decode prog_13_method_41_code 20 = .ok (.iload_n 1, 1) := by decide +kernel
theorem d293_21 : decode prog_13_method_41_code 21 = .ok (.invokevirtual 204, 3) := by decide +kernel
theorem k293_204_11 : xCa (xMo 293) 204 11 = some (1, 294, 1) := by decide +kernel
theorem n293_204 : xcn (xMo 293) 204 = some 1 := by decide +kernel
theorem d293_24 : decode prog_13_method_41_code 24 = .ok (.ifCond .ne 11, 3) := by decide +kernel
theorem d293_27 : decode prog_13_method_41_code 27 = .ok (.aload_n 0, 1) := by decide +kernel
theorem d293_28 : decode prog_13_method_41_code 28 = .ok (.aload_n 0, 1) := by decide +kernel
theorem d293_29 : decode prog_13_method_41_code 29 = .ok (.invokevirtual 160, 3) := by decide +kernel
theorem k293_160_11 : xCa (xMo 293) 160 11 = some (1, 288, 0) := by decide +kernel
theorem n293_160 : xcn (xMo 293) 160 = some 0 := by decide +kernel
theorem d293_32 : decode prog_13_method_41_code 32 = .ok (.invokevirtual 182, 3) := by decide +kernel
theorem k293_182_11 : xCa (xMo 293) 182 11 = some (1, 282, 1) := by decide +kernel
theorem n293_182 : xcn (xMo 293) 182 = some 1 := by decide +kernel
theorem d293_35 : decode prog_13_method_41_code 35 = .ok (.return_, 1) := by decide +kernel
set_option maxRecDepth 100000 in
theorem q294 : xMc 294 = prog_13_method_40_code := rfl
theorem m294 : xMl 294 = 2 ∧ xMret 294 = (some FieldType.boolean) ∧ xMh 294 = [] := by decide +kernel
theorem e294 {X : xX} {d : Nat} {w : xH} {Q : xO → xH → Prop} (a : Nat) (x0 : Int32) : Cw X d 294 [.ref a, .int x0] w Q = Wx X d 294 0 [some (.ref a), some (.int x0)] [] w Q := by
  unfold Cw
  rw [m294.1]
  rfl
theorem d294_0 : decode prog_13_method_40_code 0 = .ok (.aload_n 0, 1) := by decide +kernel
theorem d294_1 : decode prog_13_method_40_code 1 = .ok (.getfield 188, 3) := by decide +kernel
theorem f294_188 : xFd (xMo 294) 188 = some (11, 25) := by decide +kernel
theorem d294_4 : decode prog_13_method_40_code 4 = .ok (.iconst 3, 1) := by decide +kernel
theorem d294_5 : decode prog_13_method_40_code 5 = .ok (.if_icmp .lt 23, 3) := by decide +kernel
theorem d294_8 : decode prog_13_method_40_code 8 = .ok (.aload_n 0, 1) := by decide +kernel
theorem d294_9 : decode prog_13_method_40_code 9 = .ok (.iload_n 1, 1) := by decide +kernel
theorem d294_10 : decode prog_13_method_40_code 10 = .ok (.aload_n 0, 1) := by decide +kernel
theorem d294_11 : decode prog_13_method_40_code 11 = .ok (.getfield 188, 3) := by decide +kernel
theorem d294_14 : decode prog_13_method_40_code 14 = .ok (.iconst 2, 1) := by decide +kernel
theorem d294_15 : decode prog_13_method_40_code 15 = .ok (.isub, 1) := by decide +kernel
theorem d294_16 : decode prog_13_method_40_code 16 = .ok (.invokevirtual 111, 3) := by decide +kernel
theorem k294_111_11 : xCa (xMo 294) 111 11 = some (1, 222, 2) := by decide +kernel
theorem n294_111 : xcn (xMo 294) 111 = some 2 := by decide +kernel
theorem d294_19 : decode prog_13_method_40_code 19 = .ok (.bipush 58, 2) := by decide +kernel
theorem d294_21 : decode prog_13_method_40_code 21 = .ok (.if_icmp .ne 7, 3) := by decide +kernel
theorem d294_24 : decode prog_13_method_40_code 24 = .ok (.iconst 1, 1) := by decide +kernel
theorem d294_25 : decode prog_13_method_40_code 25 = .ok (.goto 4, 3) := by decide +kernel
theorem d294_28 : decode prog_13_method_40_code 28 = .ok (.iconst 0, 1) := by decide +kernel
theorem d294_29 : decode prog_13_method_40_code 29 = .ok (.ireturn, 1) := by decide +kernel
set_option maxRecDepth 100000 in
theorem q295 : xMc 295 = prog_13_method_42_code := rfl
theorem m295 : xMl 295 = 5 ∧ xMret 295 = none ∧ xMh 295 = [] := by decide +kernel
theorem e295 {X : xX} {d : Nat} {w : xH} {Q : xO → xH → Prop} (a : Nat) : Cw X d 295 [.ref a] w Q = Wx X d 295 0 [some (.ref a), none, none, none, none] [] w Q := by
  unfold Cw
  rw [m295.1]
  rfl
theorem d295_0 : decode prog_13_method_42_code 0 = .ok (.aload_n 0, 1) := by decide +kernel
theorem d295_1 : decode prog_13_method_42_code 1 = .ok (.getfield 157, 3) := by decide +kernel
theorem f295_157 : xFd (xMo 295) 157 = some (11, 23) := by decide +kernel
theorem d295_4 : decode prog_13_method_42_code 4 = .ok (.iconst 1, 1) := by decide +kernel
theorem d295_5 : decode prog_13_method_42_code 5 = .ok (.isub, 1) := by decide +kernel
theorem d295_6 : decode prog_13_method_42_code 6 = .ok (.istore_n 1, 1) := by decide +kernel
theorem d295_7 : decode prog_13_method_42_code 7 = .ok (.aload_n 0, 1) := by decide +kernel
theorem d295_8 : decode prog_13_method_42_code 8 = .ok (.getfield 53, 3) := by decide +kernel
theorem f295_53 : xFd (xMo 295) 53 = some (11, 19) := by decide +kernel
theorem d295_11 : decode prog_13_method_42_code 11 = .ok (.iload_n 1, 1) := by decide +kernel
theorem d295_12 : decode prog_13_method_42_code 12 = .ok (.iaload, 1) := by decide +kernel
theorem d295_13 : decode prog_13_method_42_code 13 = .ok (.istore_n 2, 1) := by decide +kernel
theorem d295_14 : decode prog_13_method_42_code 14 = .ok (.aload_n 0, 1) := by decide +kernel
theorem d295_15 : decode prog_13_method_42_code 15 = .ok (.dup, 1) := by decide +kernel
theorem d295_16 : decode prog_13_method_42_code 16 = .ok (.getfield 157, 3) := by decide +kernel
theorem d295_19 : decode prog_13_method_42_code 19 = .ok (.iconst 1, 1) := by decide +kernel
theorem d295_20 : decode prog_13_method_42_code 20 = .ok (.isub, 1) := by decide +kernel
theorem d295_21 : decode prog_13_method_42_code 21 = .ok (.putfield 157, 3) := by decide +kernel
theorem d295_24 : decode prog_13_method_42_code 24 = .ok (.iload_n 2, 1) := by decide +kernel
theorem d295_25 : decode prog_13_method_42_code 25 = .ok (.sipush 201, 3) := by decide +kernel
theorem d295_28 : decode prog_13_method_42_code 28 = .ok (.if_icmp .eq 10, 3) := by decide +kernel
theorem d295_31 : decode prog_13_method_42_code 31 = .ok (.iload_n 2, 1) := by decide +kernel
theorem d295_32 : decode prog_13_method_42_code 32 = .ok (.sipush 202, 3) := by decide +kernel
theorem d295_35 : decode prog_13_method_42_code 35 = .ok (.if_icmp .ne 17, 3) := by decide +kernel
theorem d295_38 : decode prog_13_method_42_code 38 = .ok (.aload_n 0, 1) := by decide +kernel
theorem d295_39 : decode prog_13_method_42_code 39 = .ok (.getfield 59, 3) := by decide +kernel
theorem f295_59 : xFd (xMo 295) 59 = some (11, 21) := by decide +kernel
theorem d295_42 : decode prog_13_method_42_code 42 = .ok (.iload_n 1, 1) := by decide +kernel
theorem d295_43 : decode prog_13_method_42_code 43 = .ok (.iaload, 1) := by decide +kernel
theorem d295_44 : decode prog_13_method_42_code 44 = .ok (.ifCond .ne 8, 3) := by decide +kernel
theorem d295_47 : decode prog_13_method_42_code 47 = .ok (.aload_n 0, 1) := by decide +kernel
theorem d295_48 : decode prog_13_method_42_code 48 = .ok (.iconst 4, 1) := by decide +kernel
theorem d295_49 : decode prog_13_method_42_code 49 = .ok (.putfield 151, 3) := by decide +kernel
theorem f295_151 : xFd (xMo 295) 151 = some (11, 24) := by decide +kernel
theorem d295_52 : decode prog_13_method_42_code 52 = .ok (.iload_n 2, 1) := by decide +kernel
theorem d295_53 : decode prog_13_method_42_code 53 = .ok (.sipush 203, 3) := by decide +kernel
theorem d295_56 : decode prog_13_method_42_code 56 = .ok (.if_icmp .ge 16, 3) := by decide +kernel
theorem d295_59 : decode prog_13_method_42_code 59 = .ok (.aload_n 0, 1) := by decide +kernel
theorem d295_60 : decode prog_13_method_42_code 60 = .ok (.aload_n 0, 1) := by decide +kernel
theorem d295_61 : decode prog_13_method_42_code 61 = .ok (.getfield 56, 3) := by decide +kernel
theorem f295_56 : xFd (xMo 295) 56 = some (11, 20) := by decide +kernel
theorem d295_64 : decode prog_13_method_42_code 64 = .ok (.iload_n 1, 1) := by decide +kernel
theorem d295_65 : decode prog_13_method_42_code 65 = .ok (.laload, 1) := by decide +kernel
theorem d295_66 : decode prog_13_method_42_code 66 = .ok (.invokevirtual 164, 3) := by decide +kernel
theorem k295_164_11 : xCa (xMo 295) 164 11 = some (1, 283, 1) := by decide +kernel
theorem n295_164 : xcn (xMo 295) 164 = some 1 := by decide +kernel
theorem d295_69 : decode prog_13_method_42_code 69 = .ok (.goto 52, 3) := by decide +kernel
theorem d295_72 : decode prog_13_method_42_code 72 = .ok (.iload_n 2, 1) := by decide +kernel
theorem d295_73 : decode prog_13_method_42_code 73 = .ok (.sipush 203, 3) := by decide +kernel
theorem d295_76 : decode prog_13_method_42_code 76 = .ok (.if_icmp .ne 17, 3) := by decide +kernel
theorem d295_79 : decode prog_13_method_42_code 79 = .ok (.aload_n 0, 1) := by decide +kernel
theorem d295_80 : decode prog_13_method_42_code 80 = .ok (.aload_n 0, 1) := by decide +kernel
theorem d295_81 : decode prog_13_method_42_code 81 = .ok (.getfield 59, 3) := by decide +kernel
theorem d295_84 : decode prog_13_method_42_code 84 = .ok (.iload_n 1, 1) := by decide +kernel
theorem d295_85 : decode prog_13_method_42_code 85 = .ok (.iaload, 1) := by decide +kernel
theorem d295_86 : decode prog_13_method_42_code 86 = .ok (.i2l, 1) := by decide +kernel
theorem d295_87 : decode prog_13_method_42_code 87 = .ok (.invokevirtual 164, 3) := by decide +kernel
theorem d295_90 : decode prog_13_method_42_code 90 = .ok (.goto 31, 3) := by decide +kernel
theorem d295_93 : decode prog_13_method_42_code 93 = .ok (.iload_n 2, 1) := by decide +kernel
theorem d295_94 : decode prog_13_method_42_code 94 = .ok (.sipush 204, 3) := by decide +kernel
theorem d295_97 : decode prog_13_method_42_code 97 = .ok (.if_icmp .ne 24, 3) := by decide +kernel
theorem d295_100 : decode prog_13_method_42_code 100 = .ok (.aload_n 0, 1) := by decide +kernel
theorem d295_101 : decode prog_13_method_42_code 101 = .ok (.invokevirtual 160, 3) := by decide +kernel
theorem k295_160_11 : xCa (xMo 295) 160 11 = some (1, 288, 0) := by decide +kernel
theorem n295_160 : xcn (xMo 295) 160 = some 0 := by decide +kernel
theorem d295_104 : decode prog_13_method_42_code 104 = .ok (.lstore_n 3, 1) := by decide +kernel
theorem d295_105 : decode prog_13_method_42_code 105 = .ok (.aload_n 0, 1) := by decide +kernel
theorem d295_106 : decode prog_13_method_42_code 106 = .ok (.lload_n 3, 1) := by decide +kernel
theorem d295_107 : decode prog_13_method_42_code 107 = .ok (.lconst 0, 1) := by decide +kernel
theorem d295_108 : decode prog_13_method_42_code 108 = .ok (.lcmp, 1) := by decide +kernel
theorem d295_109 : decode prog_13_method_42_code 109 = .ok (.ifCond .ge 8, 3) := by decide +kernel
theorem d295_112 : decode prog_13_method_42_code 112 = .ok (.lload_n 3, 1) := by decide +kernel
theorem d295_113 : decode prog_13_method_42_code 113 = .ok (.lneg, 1) := by decide +kernel
theorem d295_114 : decode prog_13_method_42_code 114 = .ok (.goto 4, 3) := by decide +kernel
theorem d295_117 : decode prog_13_method_42_code 117 = .ok (.lload_n 3, 1) := by decide +kernel
theorem d295_118 : decode prog_13_method_42_code 118 = .ok (.invokevirtual 164, 3) := by decide +kernel
theorem d295_121 : decode prog_13_method_42_code 121 = .ok (.return_, 1) := by decide +kernel
set_option maxRecDepth 100000 in
theorem q296 : xMc 296 = prog_13_method_51_code := rfl
theorem m296 : xMl 296 = 6 ∧ xMret 296 = none ∧ xMh 296 = [] := by decide +kernel
theorem e296 {X : xX} {d : Nat} {w : xH} {Q : xO → xH → Prop} (a : Nat) (x0 : Int32) : Cw X d 296 [.ref a, .int x0] w Q = Wx X d 296 0 [some (.ref a), some (.int x0), none, none, none, none] [] w Q := by
  unfold Cw
  rw [m296.1]
  rfl
theorem d296_0 : decode prog_13_method_51_code 0 = .ok (.iconst 0, 1) := by decide +kernel
theorem d296_1 : decode prog_13_method_51_code 1 = .ok (.istore_n 2, 1) := by decide +kernel
theorem d296_2 : decode prog_13_method_51_code 2 = .ok (.iload_n 2, 1) := by decide +kernel
theorem d296_3 : decode prog_13_method_51_code 3 = .ok (.iconst 4, 1) := by decide +kernel
theorem d296_4 : decode prog_13_method_51_code 4 = .ok (.if_icmp .ge 16, 3) := by decide +kernel
theorem d296_7 : decode prog_13_method_51_code 7 = .ok (.aload_n 0, 1) := by decide +kernel
theorem d296_8 : decode prog_13_method_51_code 8 = .ok (.getfield 41, 3) := by decide +kernel
theorem f296_41 : xFd (xMo 296) 41 = some (11, 15) := by decide +kernel
theorem d296_11 : decode prog_13_method_51_code 11 = .ok (.iload_n 2, 1) := by decide +kernel
theorem d296_12 : decode prog_13_method_51_code 12 = .ok (.lconst 0, 1) := by decide +kernel
theorem d296_13 : decode prog_13_method_51_code 13 = .ok (.lastore, 1) := by decide +kernel
theorem d296_14 : decode prog_13_method_51_code 14 = .ok (.iinc 2 1, 3) := by decide +kernel
theorem d296_17 : decode prog_13_method_51_code 17 = .ok (.goto (-15), 3) := by decide +kernel
theorem d296_20 : decode prog_13_method_51_code 20 = .ok (.iconst 1, 1) := by decide +kernel
theorem d296_21 : decode prog_13_method_51_code 21 = .ok (.istore_n 2, 1) := by decide +kernel
theorem d296_22 : decode prog_13_method_51_code 22 = .ok (.iload_n 2, 1) := by decide +kernel
theorem d296_23 : decode prog_13_method_51_code 23 = .ok (.ifCond .eq 108, 3) := by decide +kernel
theorem d296_26 : decode prog_13_method_51_code 26 = .ok (.iconst 0, 1) := by decide +kernel
theorem d296_27 : decode prog_13_method_51_code 27 = .ok (.istore_n 2, 1) := by decide +kernel
theorem d296_28 : decode prog_13_method_51_code 28 = .ok (.iconst 0, 1) := by decide +kernel
theorem d296_29 : decode prog_13_method_51_code 29 = .ok (.istore_n 3, 1) := by decide +kernel
theorem d296_30 : decode prog_13_method_51_code 30 = .ok (.iload_n 3, 1) := by decide +kernel
theorem d296_31 : decode prog_13_method_51_code 31 = .ok (.sipush 200, 3) := by decide +kernel
theorem d296_34 : decode prog_13_method_51_code 34 = .ok (.if_icmp .ge 94, 3) := by decide +kernel
theorem d296_37 : decode prog_13_method_51_code 37 = .ok (.aload_n 0, 1) := by decide +kernel
theorem d296_38 : decode prog_13_method_51_code 38 = .ok (.iload_n 3, 1) := by decide +kernel
theorem d296_39 : decode prog_13_method_51_code 39 = .ok (.iload_n 1, 1) := by decide +kernel
theorem d296_40 : decode prog_13_method_51_code 40 = .ok (.invokevirtual 234, 3) := by decide +kernel
theorem k296_234_11 : xCa (xMo 296) 234 11 = some (1, 275, 2) := by decide +kernel
theorem n296_234 : xcn (xMo 296) 234 = some 2 := by decide +kernel
theorem d296_43 : decode prog_13_method_51_code 43 = .ok (.istore 4, 2) := by decide +kernel
theorem d296_45 : decode prog_13_method_51_code 45 = .ok (.iconst 0, 1) := by decide +kernel
theorem d296_46 : decode prog_13_method_51_code 46 = .ok (.istore 5, 2) := by decide +kernel
theorem d296_48 : decode prog_13_method_51_code 48 = .ok (.iload 5, 2) := by decide +kernel
theorem d296_50 : decode prog_13_method_51_code 50 = .ok (.iconst 4, 1) := by decide +kernel
theorem d296_51 : decode prog_13_method_51_code 51 = .ok (.if_icmp .ge 45, 3) := by decide +kernel
theorem d296_54 : decode prog_13_method_51_code 54 = .ok (.iload 4, 2) := by decide +kernel
theorem d296_56 : decode prog_13_method_51_code 56 = .ok (.ifCond .ne 27, 3) := by decide +kernel
theorem d296_59 : decode prog_13_method_51_code 59 = .ok (.aload_n 0, 1) := by decide +kernel
theorem d296_60 : decode prog_13_method_51_code 60 = .ok (.getfield 31, 3) := by decide +kernel
theorem f296_31 : xFd (xMo 296) 31 = some (11, 12) := by decide +kernel
theorem d296_63 : decode prog_13_method_51_code 63 = .ok (.iconst 4, 1) := by decide +kernel
theorem d296_64 : decode prog_13_method_51_code 64 = .ok (.iload_n 3, 1) := by decide +kernel
theorem d296_65 : decode prog_13_method_51_code 65 = .ok (.imul, 1) := by decide +kernel
theorem d296_66 : decode prog_13_method_51_code 66 = .ok (.iload 5, 2) := by decide +kernel
theorem d296_68 : decode prog_13_method_51_code 68 = .ok (.iadd, 1) := by decide +kernel
theorem d296_69 : decode prog_13_method_51_code 69 = .ok (.laload, 1) := by decide +kernel
theorem d296_70 : decode prog_13_method_51_code 70 = .ok (.aload_n 0, 1) := by decide +kernel
theorem d296_71 : decode prog_13_method_51_code 71 = .ok (.getfield 41, 3) := by decide +kernel
theorem d296_74 : decode prog_13_method_51_code 74 = .ok (.iload 5, 2) := by decide +kernel
theorem d296_76 : decode prog_13_method_51_code 76 = .ok (.laload, 1) := by decide +kernel
theorem d296_77 : decode prog_13_method_51_code 77 = .ok (.land, 1) := by decide +kernel
theorem d296_78 : decode prog_13_method_51_code 78 = .ok (.lconst 0, 1) := by decide +kernel
theorem d296_79 : decode prog_13_method_51_code 79 = .ok (.lcmp, 1) := by decide +kernel
theorem d296_80 : decode prog_13_method_51_code 80 = .ok (.ifCond .eq 7, 3) := by decide +kernel
theorem d296_83 : decode prog_13_method_51_code 83 = .ok (.iconst 1, 1) := by decide +kernel
theorem d296_84 : decode prog_13_method_51_code 84 = .ok (.goto 4, 3) := by decide +kernel
theorem d296_87 : decode prog_13_method_51_code 87 = .ok (.iconst 0, 1) := by decide +kernel
theorem d296_88 : decode prog_13_method_51_code 88 = .ok (.istore 4, 2) := by decide +kernel
theorem d296_90 : decode prog_13_method_51_code 90 = .ok (.iinc 5 1, 3) := by decide +kernel
theorem d296_93 : decode prog_13_method_51_code 93 = .ok (.goto (-45), 3) := by decide +kernel
theorem d296_96 : decode prog_13_method_51_code 96 = .ok (.iload 4, 2) := by decide +kernel
theorem d296_98 : decode prog_13_method_51_code 98 = .ok (.ifCond .eq 24, 3) := by decide +kernel
theorem d296_101 : decode prog_13_method_51_code 101 = .ok (.aload_n 0, 1) := by decide +kernel
theorem d296_102 : decode prog_13_method_51_code 102 = .ok (.getfield 41, 3) := by decide +kernel
theorem d296_105 : decode prog_13_method_51_code 105 = .ok (.iload_n 3, 1) := by decide +kernel
theorem d296_106 : decode prog_13_method_51_code 106 = .ok (.invokestatic 257, 3) := by decide +kernel
theorem k296_257_99 : xCa (xMo 296) 257 99 = some (0, 297, 2) := by decide +kernel
theorem d296_109 : decode prog_13_method_51_code 109 = .ok (.ifCond .ne 13, 3) := by decide +kernel
theorem d296_112 : decode prog_13_method_51_code 112 = .ok (.aload_n 0, 1) := by decide +kernel
theorem d296_113 : decode prog_13_method_51_code 113 = .ok (.getfield 41, 3) := by decide +kernel
theorem d296_116 : decode prog_13_method_51_code 116 = .ok (.iload_n 3, 1) := by decide +kernel
theorem d296_117 : decode prog_13_method_51_code 117 = .ok (.invokestatic 243, 3) := by decide +kernel
theorem k296_243_99 : xCa (xMo 296) 243 99 = some (0, 229, 2) := by decide +kernel
theorem d296_120 : decode prog_13_method_51_code 120 = .ok (.iconst 1, 1) := by decide +kernel
theorem d296_121 : decode prog_13_method_51_code 121 = .ok (.istore_n 2, 1) := by decide +kernel
theorem d296_122 : decode prog_13_method_51_code 122 = .ok (.iinc 3 1, 3) := by decide +kernel
theorem d296_125 : decode prog_13_method_51_code 125 = .ok (.goto (-95), 3) := by decide +kernel
theorem d296_128 : decode prog_13_method_51_code 128 = .ok (.goto (-106), 3) := by decide +kernel
theorem d296_131 : decode prog_13_method_51_code 131 = .ok (.return_, 1) := by decide +kernel
set_option maxRecDepth 100000 in
theorem q297 : xMc 297 = prog_13_method_20_code := rfl
theorem m297 : xMl 297 = 2 ∧ xMret 297 = (some FieldType.boolean) ∧ xMh 297 = [] := by decide +kernel
theorem e297 {X : xX} {d : Nat} {w : xH} {Q : xO → xH → Prop} (x0 : Nat) (x1 : Int32) : Cw X d 297 [.ref x0, .int x1] w Q = Wx X d 297 0 [some (.ref x0), some (.int x1)] [] w Q := by
  unfold Cw
  rw [m297.1]
  rfl
theorem d297_0 : decode prog_13_method_20_code 0 = .ok (.aload_n 0, 1) := by decide +kernel
theorem d297_1 : decode prog_13_method_20_code 1 = .ok (.iload_n 1, 1) := by decide +kernel
theorem d297_2 : decode prog_13_method_20_code 2 = .ok (.bipush 64, 2) := by decide +kernel
theorem d297_4 : decode prog_13_method_20_code 4 = .ok (.idiv, 1) := by decide +kernel
theorem d297_5 : decode prog_13_method_20_code 5 = .ok (.laload, 1) := by decide +kernel
theorem d297_6 : decode prog_13_method_20_code 6 = .ok (.iload_n 1, 1) := by decide +kernel
theorem d297_7 : decode prog_13_method_20_code 7 = .ok (.bipush 64, 2) := by decide +kernel
theorem d297_9 : decode prog_13_method_20_code 9 = .ok (.irem, 1) := by decide +kernel
theorem d297_10 : decode prog_13_method_20_code 10 = .ok (.lshr, 1) := by decide +kernel
theorem d297_11 : decode prog_13_method_20_code 11 = .ok (.lconst 1, 1) := by decide +kernel
theorem d297_12 : decode prog_13_method_20_code 12 = .ok (.land, 1) := by decide +kernel
theorem d297_13 : decode prog_13_method_20_code 13 = .ok (.lconst 1, 1) := by decide +kernel
theorem d297_14 : decode prog_13_method_20_code 14 = .ok (.lcmp, 1) := by decide +kernel
theorem d297_15 : decode prog_13_method_20_code 15 = .ok (.ifCond .ne 7, 3) := by decide +kernel
theorem d297_18 : decode prog_13_method_20_code 18 = .ok (.iconst 1, 1) := by decide +kernel
theorem d297_19 : decode prog_13_method_20_code 19 = .ok (.goto 4, 3) := by decide +kernel
theorem d297_22 : decode prog_13_method_20_code 22 = .ok (.iconst 0, 1) := by decide +kernel
theorem d297_23 : decode prog_13_method_20_code 23 = .ok (.ireturn, 1) := by decide +kernel
set_option maxRecDepth 100000 in
theorem q298 : xMc 298 = prog_13_method_52_code := rfl
theorem m298 : xMl 298 = 3 ∧ xMret 298 = (some FieldType.int) ∧ xMh 298 = [] := by decide +kernel
theorem e298 {X : xX} {d : Nat} {w : xH} {Q : xO → xH → Prop} (x0 : Nat) : Cw X d 298 [.ref x0] w Q = Wx X d 298 0 [some (.ref x0), none, none] [] w Q := by
  unfold Cw
  rw [m298.1]
  rfl
theorem d298_0 : decode prog_13_method_52_code 0 = .ok (.iconst 0, 1) := by decide +kernel
theorem d298_1 : decode prog_13_method_52_code 1 = .ok (.istore_n 1, 1) := by decide +kernel
theorem d298_2 : decode prog_13_method_52_code 2 = .ok (.iconst 0, 1) := by decide +kernel
theorem d298_3 : decode prog_13_method_52_code 3 = .ok (.istore_n 2, 1) := by decide +kernel
theorem d298_4 : decode prog_13_method_52_code 4 = .ok (.iload_n 2, 1) := by decide +kernel
theorem d298_5 : decode prog_13_method_52_code 5 = .ok (.sipush 200, 3) := by decide +kernel
theorem d298_8 : decode prog_13_method_52_code 8 = .ok (.if_icmp .ge 25, 3) := by decide +kernel
theorem d298_11 : decode prog_13_method_52_code 11 = .ok (.iload_n 1, 1) := by decide +kernel
theorem d298_12 : decode prog_13_method_52_code 12 = .ok (.aload_n 0, 1) := by decide +kernel
theorem d298_13 : decode prog_13_method_52_code 13 = .ok (.iload_n 2, 1) := by decide +kernel
theorem d298_14 : decode prog_13_method_52_code 14 = .ok (.invokestatic 257, 3) := by decide +kernel
theorem k298_257_99 : xCa (xMo 298) 257 99 = some (0, 297, 2) := by decide +kernel
theorem d298_17 : decode prog_13_method_52_code 17 = .ok (.ifCond .eq 7, 3) := by decide +kernel
theorem d298_20 : decode prog_13_method_52_code 20 = .ok (.iconst 1, 1) := by decide +kernel
theorem d298_21 : decode prog_13_method_52_code 21 = .ok (.goto 4, 3) := by decide +kernel
theorem d298_24 : decode prog_13_method_52_code 24 = .ok (.iconst 0, 1) := by decide +kernel
theorem d298_25 : decode prog_13_method_52_code 25 = .ok (.iadd, 1) := by decide +kernel
theorem d298_26 : decode prog_13_method_52_code 26 = .ok (.istore_n 1, 1) := by decide +kernel
theorem d298_27 : decode prog_13_method_52_code 27 = .ok (.iinc 2 1, 3) := by decide +kernel
theorem d298_30 : decode prog_13_method_52_code 30 = .ok (.goto (-26), 3) := by decide +kernel
theorem d298_33 : decode prog_13_method_52_code 33 = .ok (.iload_n 1, 1) := by decide +kernel
theorem d298_34 : decode prog_13_method_52_code 34 = .ok (.ireturn, 1) := by decide +kernel
end
