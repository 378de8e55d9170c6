/-! facts of methods, written by wip/whole/mkfacts.py -/
section
set_option maxRecDepth 100000 in
theorem q178 : xMc 178 = method_3_code := rfl
theorem m178 : xMl 178 = 4 ∧ xMret 178 = (some FieldType.int) := by decide +kernel
theorem e178 {X : xX} {d : Nat} {w : xH} {Q : xO → xH → Prop} (x0 : Nat) (x1 : Int32) (x2 : Nat) : Cw X d 178 [.ref x0, .int x1, .ref x2] w Q = Wx X d 178 0 [some (.ref x0), some (.int x1), some (.ref x2), none] [] w Q := by
  unfold Cw
  rw [m178.1]
  rfl
theorem d178_0 : decode method_3_code 0 = .ok (.aload_n 2, 1) := by decide +kernel
theorem d178_1 : decode method_3_code 1 = .ok (.iconst 0, 1) := by decide +kernel
theorem d178_2 : decode method_3_code 2 = .ok (.aload_n 0, 1) := by decide +kernel
theorem d178_3 : decode method_3_code 3 = .ok (.iload_n 1, 1) := by decide +kernel
theorem d178_4 : decode method_3_code 4 = .ok (.invokevirtual 7, 3) := by decide +kernel
theorem k178_7_10 : xCa (xMo 178) 7 10 = some (1, 13, 1) := by decide +kernel
theorem n178_7 : xcn (xMo 178) 7 = some 1 := by decide +kernel
theorem d178_7 : decode method_3_code 7 = .ok (.i2l, 1) := by decide +kernel
theorem d178_8 : decode method_3_code 8 = .ok (.lastore, 1) := by decide +kernel
theorem d178_9 : decode method_3_code 9 = .ok (.goto 9, 3) := by decide +kernel
theorem d178_12 : decode method_3_code 12 = .ok (.astore_n 3, 1) := by decide +kernel
theorem d178_13 : decode method_3_code 13 = .ok (.iconst 1, 1) := by decide +kernel
theorem d178_14 : decode method_3_code 14 = .ok (.ireturn, 1) := by decide +kernel
theorem d178_15 : decode method_3_code 15 = .ok (.astore_n 3, 1) := by decide +kernel
theorem d178_16 : decode method_3_code 16 = .ok (.iconst 2, 1) := by decide +kernel
theorem d178_17 : decode method_3_code 17 = .ok (.ireturn, 1) := by decide +kernel
theorem d178_18 : decode method_3_code 18 = .ok (.iconst 0, 1) := by decide +kernel
theorem d178_19 : decode method_3_code 19 = .ok (.ireturn, 1) := by decide +kernel
set_option maxRecDepth 100000 in
theorem q179 : xMc 179 = method_4_code := rfl
theorem m179 : xMl 179 = 4 ∧ xMret 179 = (some FieldType.int) := by decide +kernel
theorem e179 {X : xX} {d : Nat} {w : xH} {Q : xO → xH → Prop} (x0 : Nat) (x1 : Int32) (x2 : Nat) : Cw X d 179 [.ref x0, .int x1, .ref x2] w Q = Wx X d 179 0 [some (.ref x0), some (.int x1), some (.ref x2), none] [] w Q := by
  unfold Cw
  rw [m179.1]
  rfl
theorem d179_0 : decode method_4_code 0 = .ok (.aload_n 2, 1) := by decide +kernel
theorem d179_1 : decode method_4_code 1 = .ok (.iconst 0, 1) := by decide +kernel
theorem d179_2 : decode method_4_code 2 = .ok (.aload_n 0, 1) := by decide +kernel
theorem d179_3 : decode method_4_code 3 = .ok (.iload_n 1, 1) := by decide +kernel
theorem d179_4 : decode method_4_code 4 = .ok (.invokevirtual 17, 3) := by decide +kernel
theorem k179_17_10 : xCa (xMo 179) 17 10 = some (1, 14, 1) := by decide +kernel
theorem n179_17 : xcn (xMo 179) 17 = some 1 := by decide +kernel
theorem d179_7 : decode method_4_code 7 = .ok (.i2l, 1) := by decide +kernel
theorem d179_8 : decode method_4_code 8 = .ok (.lastore, 1) := by decide +kernel
theorem d179_9 : decode method_4_code 9 = .ok (.goto 9, 3) := by decide +kernel
theorem d179_12 : decode method_4_code 12 = .ok (.astore_n 3, 1) := by decide +kernel
theorem d179_13 : decode method_4_code 13 = .ok (.iconst 1, 1) := by decide +kernel
theorem d179_14 : decode method_4_code 14 = .ok (.ireturn, 1) := by decide +kernel
theorem d179_15 : decode method_4_code 15 = .ok (.astore_n 3, 1) := by decide +kernel
theorem d179_16 : decode method_4_code 16 = .ok (.iconst 2, 1) := by decide +kernel
theorem d179_17 : decode method_4_code 17 = .ok (.ireturn, 1) := by decide +kernel
theorem d179_18 : decode method_4_code 18 = .ok (.iconst 0, 1) := by decide +kernel
theorem d179_19 : decode method_4_code 19 = .ok (.ireturn, 1) := by decide +kernel
set_option maxRecDepth 100000 in
theorem q180 : xMc 180 = method_5_code := rfl
theorem m180 : xMl 180 = 5 ∧ xMret 180 = (some FieldType.int) := by decide +kernel
theorem e180 {X : xX} {d : Nat} {w : xH} {Q : xO → xH → Prop} (x0 : Nat) (x1 : Int32) (x2 : Int32) (x3 : Nat) : Cw X d 180 [.ref x0, .int x1, .int x2, .ref x3] w Q = Wx X d 180 0 [some (.ref x0), some (.int x1), some (.int x2), some (.ref x3), none] [] w Q := by
  unfold Cw
  rw [m180.1]
  rfl
theorem d180_0 : decode method_5_code 0 = .ok (.aload_n 3, 1) := by decide +kernel
theorem d180_1 : decode method_5_code 1 = .ok (.iconst 0, 1) := by decide +kernel
theorem d180_2 : decode method_5_code 2 = .ok (.aload_n 0, 1) := by decide +kernel
theorem d180_3 : decode method_5_code 3 = .ok (.iload_n 1, 1) := by decide +kernel
theorem d180_4 : decode method_5_code 4 = .ok (.iload_n 2, 1) := by decide +kernel
theorem d180_5 : decode method_5_code 5 = .ok (.invokevirtual 20, 3) := by decide +kernel
theorem k180_20_10 : xCa (xMo 180) 20 10 = some (1, 16, 2) := by decide +kernel
theorem n180_20 : xcn (xMo 180) 20 = some 2 := by decide +kernel
theorem d180_8 : decode method_5_code 8 = .ok (.i2l, 1) := by decide +kernel
theorem d180_9 : decode method_5_code 9 = .ok (.lastore, 1) := by decide +kernel
theorem d180_10 : decode method_5_code 10 = .ok (.goto 7, 3) := by decide +kernel
theorem d180_13 : decode method_5_code 13 = .ok (.astore 4, 2) := by decide +kernel
theorem d180_15 : decode method_5_code 15 = .ok (.iconst 1, 1) := by decide +kernel
theorem d180_16 : decode method_5_code 16 = .ok (.ireturn, 1) := by decide +kernel
theorem d180_17 : decode method_5_code 17 = .ok (.iconst 0, 1) := by decide +kernel
theorem d180_18 : decode method_5_code 18 = .ok (.ireturn, 1) := by decide +kernel
set_option maxRecDepth 100000 in
theorem q181 : xMc 181 = method_6_code := rfl
theorem m181 : xMl 181 = 4 ∧ xMret 181 = (some FieldType.int) := by decide +kernel
theorem e181 {X : xX} {d : Nat} {w : xH} {Q : xO → xH → Prop} (x0 : Nat) (x1 : Int32) (x2 : Nat) : Cw X d 181 [.ref x0, .int x1, .ref x2] w Q = Wx X d 181 0 [some (.ref x0), some (.int x1), some (.ref x2), none] [] w Q := by
  unfold Cw
  rw [m181.1]
  rfl
theorem d181_0 : decode method_6_code 0 = .ok (.aload_n 2, 1) := by decide +kernel
theorem d181_1 : decode method_6_code 1 = .ok (.iconst 0, 1) := by decide +kernel
theorem d181_2 : decode method_6_code 2 = .ok (.aload_n 0, 1) := by decide +kernel
theorem d181_3 : decode method_6_code 3 = .ok (.iload_n 1, 1) := by decide +kernel
theorem d181_4 : decode method_6_code 4 = .ok (.invokevirtual 24, 3) := by decide +kernel
theorem k181_24_10 : xCa (xMo 181) 24 10 = some (1, 18, 1) := by decide +kernel
theorem n181_24 : xcn (xMo 181) 24 = some 1 := by decide +kernel
theorem d181_7 : decode method_6_code 7 = .ok (.i2l, 1) := by decide +kernel
theorem d181_8 : decode method_6_code 8 = .ok (.lastore, 1) := by decide +kernel
theorem d181_9 : decode method_6_code 9 = .ok (.goto 6, 3) := by decide +kernel
theorem d181_12 : decode method_6_code 12 = .ok (.astore_n 3, 1) := by decide +kernel
theorem d181_13 : decode method_6_code 13 = .ok (.iconst 1, 1) := by decide +kernel
theorem d181_14 : decode method_6_code 14 = .ok (.ireturn, 1) := by decide +kernel
theorem d181_15 : decode method_6_code 15 = .ok (.iconst 0, 1) := by decide +kernel
theorem d181_16 : decode method_6_code 16 = .ok (.ireturn, 1) := by decide +kernel
set_option maxRecDepth 100000 in
theorem q182 : xMc 182 = method_7_code := rfl
theorem m182 : xMl 182 = 6 ∧ xMret 182 = (some FieldType.int) := by decide +kernel
theorem e182 {X : xX} {d : Nat} {w : xH} {Q : xO → xH → Prop} (x0 : Nat) (x1 : Int32) (x2 : Int32) (x3 : Int32) (x4 : Nat) : Cw X d 182 [.ref x0, .int x1, .int x2, .int x3, .ref x4] w Q = Wx X d 182 0 [some (.ref x0), some (.int x1), some (.int x2), some (.int x3), some (.ref x4), none] [] w Q := by
  unfold Cw
  rw [m182.1]
  rfl
theorem d182_0 : decode method_7_code 0 = .ok (.aload 4, 2) := by decide +kernel
theorem d182_2 : decode method_7_code 2 = .ok (.iconst 0, 1) := by decide +kernel
theorem d182_3 : decode method_7_code 3 = .ok (.aload_n 0, 1) := by decide +kernel
theorem d182_4 : decode method_7_code 4 = .ok (.iload_n 1, 1) := by decide +kernel
theorem d182_5 : decode method_7_code 5 = .ok (.iload_n 2, 1) := by decide +kernel
theorem d182_6 : decode method_7_code 6 = .ok (.iload_n 3, 1) := by decide +kernel
theorem d182_7 : decode method_7_code 7 = .ok (.invokevirtual 27, 3) := by decide +kernel
theorem k182_27_10 : xCa (xMo 182) 27 10 = some (1, 19, 3) := by decide +kernel
theorem n182_27 : xcn (xMo 182) 27 = some 3 := by decide +kernel
theorem d182_10 : decode method_7_code 10 = .ok (.i2l, 1) := by decide +kernel
theorem d182_11 : decode method_7_code 11 = .ok (.lastore, 1) := by decide +kernel
theorem d182_12 : decode method_7_code 12 = .ok (.goto 11, 3) := by decide +kernel
theorem d182_15 : decode method_7_code 15 = .ok (.astore 5, 2) := by decide +kernel
theorem d182_17 : decode method_7_code 17 = .ok (.iconst 1, 1) := by decide +kernel
theorem d182_18 : decode method_7_code 18 = .ok (.ireturn, 1) := by decide +kernel
theorem d182_19 : decode method_7_code 19 = .ok (.astore 5, 2) := by decide +kernel
theorem d182_21 : decode method_7_code 21 = .ok (.iconst 2, 1) := by decide +kernel
theorem d182_22 : decode method_7_code 22 = .ok (.ireturn, 1) := by decide +kernel
theorem d182_23 : decode method_7_code 23 = .ok (.iconst 0, 1) := by decide +kernel
theorem d182_24 : decode method_7_code 24 = .ok (.ireturn, 1) := by decide +kernel
set_option maxRecDepth 100000 in
theorem q183 : xMc 183 = method_8_code := rfl
theorem m183 : xMl 183 = 5 ∧ xMret 183 = (some FieldType.int) := by decide +kernel
theorem e183 {X : xX} {d : Nat} {w : xH} {Q : xO → xH → Prop} (x0 : Nat) (x1 : Int32) (x2 : Int32) (x3 : Nat) : Cw X d 183 [.ref x0, .int x1, .int x2, .ref x3] w Q = Wx X d 183 0 [some (.ref x0), some (.int x1), some (.int x2), some (.ref x3), none] [] w Q := by
  unfold Cw
  rw [m183.1]
  rfl
theorem d183_0 : decode method_8_code 0 = .ok (.aload_n 3, 1) := by decide +kernel
theorem d183_1 : decode method_8_code 1 = .ok (.iconst 0, 1) := by decide +kernel
theorem d183_2 : decode method_8_code 2 = .ok (.aload_n 0, 1) := by decide +kernel
theorem d183_3 : decode method_8_code 3 = .ok (.iload_n 1, 1) := by decide +kernel
theorem d183_4 : decode method_8_code 4 = .ok (.iload_n 2, 1) := by decide +kernel
theorem d183_5 : decode method_8_code 5 = .ok (.invokevirtual 31, 3) := by decide +kernel
theorem k183_31_10 : xCa (xMo 183) 31 10 = some (1, 20, 2) := by decide +kernel
theorem n183_31 : xcn (xMo 183) 31 = some 2 := by decide +kernel
theorem d183_8 : decode method_8_code 8 = .ok (.i2l, 1) := by decide +kernel
theorem d183_9 : decode method_8_code 9 = .ok (.lastore, 1) := by decide +kernel
theorem d183_10 : decode method_8_code 10 = .ok (.goto 7, 3) := by decide +kernel
theorem d183_13 : decode method_8_code 13 = .ok (.astore 4, 2) := by decide +kernel
theorem d183_15 : decode method_8_code 15 = .ok (.iconst 1, 1) := by decide +kernel
theorem d183_16 : decode method_8_code 16 = .ok (.ireturn, 1) := by decide +kernel
theorem d183_17 : decode method_8_code 17 = .ok (.iconst 0, 1) := by decide +kernel
theorem d183_18 : decode method_8_code 18 = .ok (.ireturn, 1) := by decide +kernel
set_option maxRecDepth 100000 in
theorem q184 : xMc 184 = method_9_code := rfl
theorem m184 : xMl 184 = 4 ∧ xMret 184 = (some FieldType.int) := by decide +kernel
theorem e184 {X : xX} {d : Nat} {w : xH} {Q : xO → xH → Prop} (x0 : Nat) (x1 : Int32) (x2 : Nat) : Cw X d 184 [.ref x0, .int x1, .ref x2] w Q = Wx X d 184 0 [some (.ref x0), some (.int x1), some (.ref x2), none] [] w Q := by
  unfold Cw
  rw [m184.1]
  rfl
theorem d184_0 : decode method_9_code 0 = .ok (.aload_n 2, 1) := by decide +kernel
theorem d184_1 : decode method_9_code 1 = .ok (.iconst 0, 1) := by decide +kernel
theorem d184_2 : decode method_9_code 2 = .ok (.aload_n 0, 1) := by decide +kernel
theorem d184_3 : decode method_9_code 3 = .ok (.iload_n 1, 1) := by decide +kernel
theorem d184_4 : decode method_9_code 4 = .ok (.invokevirtual 34, 3) := by decide +kernel
theorem k184_34_10 : xCa (xMo 184) 34 10 = some (1, 21, 1) := by decide +kernel
theorem n184_34 : xcn (xMo 184) 34 = some 1 := by decide +kernel
theorem d184_7 : decode method_9_code 7 = .ok (.i2l, 1) := by decide +kernel
theorem d184_8 : decode method_9_code 8 = .ok (.lastore, 1) := by decide +kernel
theorem d184_9 : decode method_9_code 9 = .ok (.goto 9, 3) := by decide +kernel
theorem d184_12 : decode method_9_code 12 = .ok (.astore_n 3, 1) := by decide +kernel
theorem d184_13 : decode method_9_code 13 = .ok (.iconst 1, 1) := by decide +kernel
theorem d184_14 : decode method_9_code 14 = .ok (.ireturn, 1) := by decide +kernel
theorem d184_15 : decode method_9_code 15 = .ok (.astore_n 3, 1) := by decide +kernel
theorem d184_16 : decode method_9_code 16 = .ok (.iconst 2, 1) := by decide +kernel
theorem d184_17 : decode method_9_code 17 = .ok (.ireturn, 1) := by decide +kernel
theorem d184_18 : decode method_9_code 18 = .ok (.iconst 0, 1) := by decide +kernel
theorem d184_19 : decode method_9_code 19 = .ok (.ireturn, 1) := by decide +kernel
set_option maxRecDepth 100000 in
theorem q185 : xMc 185 = method_10_code := rfl
theorem m185 : xMl 185 = 4 ∧ xMret 185 = (some FieldType.int) := by decide +kernel
theorem e185 {X : xX} {d : Nat} {w : xH} {Q : xO → xH → Prop} (x0 : Nat) (x1 : Int32) (x2 : Nat) : Cw X d 185 [.ref x0, .int x1, .ref x2] w Q = Wx X d 185 0 [some (.ref x0), some (.int x1), some (.ref x2), none] [] w Q := by
  unfold Cw
  rw [m185.1]
  rfl
theorem d185_0 : decode method_10_code 0 = .ok (.aload_n 2, 1) := by decide +kernel
theorem d185_1 : decode method_10_code 1 = .ok (.iconst 0, 1) := by decide +kernel
theorem d185_2 : decode method_10_code 2 = .ok (.aload_n 0, 1) := by decide +kernel
theorem d185_3 : decode method_10_code 3 = .ok (.iload_n 1, 1) := by decide +kernel
theorem d185_4 : decode method_10_code 4 = .ok (.invokevirtual 37, 3) := by decide +kernel
theorem k185_37_10 : xCa (xMo 185) 37 10 = some (1, 24, 1) := by decide +kernel
theorem n185_37 : xcn (xMo 185) 37 = some 1 := by decide +kernel
theorem d185_7 : decode method_10_code 7 = .ok (.i2l, 1) := by decide +kernel
theorem d185_8 : decode method_10_code 8 = .ok (.lastore, 1) := by decide +kernel
theorem d185_9 : decode method_10_code 9 = .ok (.goto 6, 3) := by decide +kernel
theorem d185_12 : decode method_10_code 12 = .ok (.astore_n 3, 1) := by decide +kernel
theorem d185_13 : decode method_10_code 13 = .ok (.iconst 1, 1) := by decide +kernel
theorem d185_14 : decode method_10_code 14 = .ok (.ireturn, 1) := by decide +kernel
theorem d185_15 : decode method_10_code 15 = .ok (.iconst 0, 1) := by decide +kernel
theorem d185_16 : decode method_10_code 16 = .ok (.ireturn, 1) := by decide +kernel
set_option maxRecDepth 100000 in
theorem q186 : xMc 186 = method_11_code := rfl
theorem m186 : xMl 186 = 4 ∧ xMret 186 = (some FieldType.int) := by decide +kernel
theorem e186 {X : xX} {d : Nat} {w : xH} {Q : xO → xH → Prop} (x0 : Nat) (x1 : Int32) (x2 : Nat) : Cw X d 186 [.ref x0, .int x1, .ref x2] w Q = Wx X d 186 0 [some (.ref x0), some (.int x1), some (.ref x2), none] [] w Q := by
  unfold Cw
  rw [m186.1]
  rfl
theorem d186_0 : decode method_11_code 0 = .ok (.aload_n 2, 1) := by decide +kernel
theorem d186_1 : decode method_11_code 1 = .ok (.iconst 0, 1) := by decide +kernel
theorem d186_2 : decode method_11_code 2 = .ok (.aload_n 0, 1) := by decide +kernel
theorem d186_3 : decode method_11_code 3 = .ok (.iload_n 1, 1) := by decide +kernel
theorem d186_4 : decode method_11_code 4 = .ok (.invokevirtual 40, 3) := by decide +kernel
theorem k186_40_10 : xCa (xMo 186) 40 10 = some (1, 25, 1) := by decide +kernel
theorem n186_40 : xcn (xMo 186) 40 = some 1 := by decide +kernel
theorem d186_7 : decode method_11_code 7 = .ok (.i2l, 1) := by decide +kernel
theorem d186_8 : decode method_11_code 8 = .ok (.lastore, 1) := by decide +kernel
theorem d186_9 : decode method_11_code 9 = .ok (.goto 9, 3) := by decide +kernel
theorem d186_12 : decode method_11_code 12 = .ok (.astore_n 3, 1) := by decide +kernel
theorem d186_13 : decode method_11_code 13 = .ok (.iconst 1, 1) := by decide +kernel
theorem d186_14 : decode method_11_code 14 = .ok (.ireturn, 1) := by decide +kernel
theorem d186_15 : decode method_11_code 15 = .ok (.astore_n 3, 1) := by decide +kernel
theorem d186_16 : decode method_11_code 16 = .ok (.iconst 2, 1) := by decide +kernel
theorem d186_17 : decode method_11_code 17 = .ok (.ireturn, 1) := by decide +kernel
theorem d186_18 : decode method_11_code 18 = .ok (.iconst 0, 1) := by decide +kernel
theorem d186_19 : decode method_11_code 19 = .ok (.ireturn, 1) := by decide +kernel
set_option maxRecDepth 100000 in
theorem q187 : xMc 187 = method_12_code := rfl
theorem m187 : xMl 187 = 4 ∧ xMret 187 = (some FieldType.int) := by decide +kernel
theorem e187 {X : xX} {d : Nat} {w : xH} {Q : xO → xH → Prop} (x0 : Nat) (x1 : Int32) (x2 : Nat) : Cw X d 187 [.ref x0, .int x1, .ref x2] w Q = Wx X d 187 0 [some (.ref x0), some (.int x1), some (.ref x2), none] [] w Q := by
  unfold Cw
  rw [m187.1]
  rfl
theorem d187_0 : decode method_12_code 0 = .ok (.aload_n 2, 1) := by decide +kernel
theorem d187_1 : decode method_12_code 1 = .ok (.iconst 0, 1) := by decide +kernel
theorem d187_2 : decode method_12_code 2 = .ok (.aload_n 0, 1) := by decide +kernel
theorem d187_3 : decode method_12_code 3 = .ok (.iload_n 1, 1) := by decide +kernel
theorem d187_4 : decode method_12_code 4 = .ok (.invokevirtual 43, 3) := by decide +kernel
theorem k187_43_10 : xCa (xMo 187) 43 10 = some (1, 27, 1) := by decide +kernel
theorem n187_43 : xcn (xMo 187) 43 = some 1 := by decide +kernel
theorem d187_7 : decode method_12_code 7 = .ok (.i2l, 1) := by decide +kernel
theorem d187_8 : decode method_12_code 8 = .ok (.lastore, 1) := by decide +kernel
theorem d187_9 : decode method_12_code 9 = .ok (.goto 6, 3) := by decide +kernel
theorem d187_12 : decode method_12_code 12 = .ok (.astore_n 3, 1) := by decide +kernel
theorem d187_13 : decode method_12_code 13 = .ok (.iconst 1, 1) := by decide +kernel
theorem d187_14 : decode method_12_code 14 = .ok (.ireturn, 1) := by decide +kernel
theorem d187_15 : decode method_12_code 15 = .ok (.iconst 0, 1) := by decide +kernel
theorem d187_16 : decode method_12_code 16 = .ok (.ireturn, 1) := by decide +kernel
set_option maxRecDepth 100000 in
theorem q188 : xMc 188 = method_13_code := rfl
theorem m188 : xMl 188 = 3 ∧ xMret 188 = (some FieldType.int) := by decide +kernel
theorem e188 {X : xX} {d : Nat} {w : xH} {Q : xO → xH → Prop} (x0 : Nat) (x1 : Nat) : Cw X d 188 [.ref x0, .ref x1] w Q = Wx X d 188 0 [some (.ref x0), some (.ref x1), none] [] w Q := by
  unfold Cw
  rw [m188.1]
  rfl
theorem d188_0 : decode method_13_code 0 = .ok (.aload_n 1, 1) := by decide +kernel
theorem d188_1 : decode method_13_code 1 = .ok (.iconst 0, 1) := by decide +kernel
theorem d188_2 : decode method_13_code 2 = .ok (.aload_n 0, 1) := by decide +kernel
theorem d188_3 : decode method_13_code 3 = .ok (.invokevirtual 46, 3) := by decide +kernel
theorem k188_46_10 : xCa (xMo 188) 46 10 = some (1, 28, 0) := by decide +kernel
theorem n188_46 : xcn (xMo 188) 46 = some 0 := by decide +kernel
theorem d188_6 : decode method_13_code 6 = .ok (.i2l, 1) := by decide +kernel
theorem d188_7 : decode method_13_code 7 = .ok (.lastore, 1) := by decide +kernel
theorem d188_8 : decode method_13_code 8 = .ok (.goto 6, 3) := by decide +kernel
theorem d188_11 : decode method_13_code 11 = .ok (.astore_n 2, 1) := by decide +kernel
theorem d188_12 : decode method_13_code 12 = .ok (.iconst 1, 1) := by decide +kernel
theorem d188_13 : decode method_13_code 13 = .ok (.ireturn, 1) := by decide +kernel
theorem d188_14 : decode method_13_code 14 = .ok (.iconst 0, 1) := by decide +kernel
theorem d188_15 : decode method_13_code 15 = .ok (.ireturn, 1) := by decide +kernel
set_option maxRecDepth 100000 in
theorem q189 : xMc 189 = method_14_code := rfl
theorem m189 : xMl 189 = 3 ∧ xMret 189 = (some FieldType.int) := by decide +kernel
theorem e189 {X : xX} {d : Nat} {w : xH} {Q : xO → xH → Prop} (x0 : Nat) (x1 : Nat) : Cw X d 189 [.ref x0, .ref x1] w Q = Wx X d 189 0 [some (.ref x0), some (.ref x1), none] [] w Q := by
  unfold Cw
  rw [m189.1]
  rfl
theorem d189_0 : decode method_14_code 0 = .ok (.aload_n 1, 1) := by decide +kernel
theorem d189_1 : decode method_14_code 1 = .ok (.iconst 0, 1) := by decide +kernel
theorem d189_2 : decode method_14_code 2 = .ok (.aload_n 0, 1) := by decide +kernel
theorem d189_3 : decode method_14_code 3 = .ok (.invokevirtual 50, 3) := by decide +kernel
theorem k189_50_10 : xCa (xMo 189) 50 10 = some (1, 29, 0) := by decide +kernel
theorem n189_50 : xcn (xMo 189) 50 = some 0 := by decide +kernel
theorem d189_6 : decode method_14_code 6 = .ok (.i2l, 1) := by decide +kernel
theorem d189_7 : decode method_14_code 7 = .ok (.lastore, 1) := by decide +kernel
theorem d189_8 : decode method_14_code 8 = .ok (.goto 6, 3) := by decide +kernel
theorem d189_11 : decode method_14_code 11 = .ok (.astore_n 2, 1) := by decide +kernel
theorem d189_12 : decode method_14_code 12 = .ok (.iconst 1, 1) := by decide +kernel
theorem d189_13 : decode method_14_code 13 = .ok (.ireturn, 1) := by decide +kernel
theorem d189_14 : decode method_14_code 14 = .ok (.iconst 0, 1) := by decide +kernel
theorem d189_15 : decode method_14_code 15 = .ok (.ireturn, 1) := by decide +kernel
set_option maxRecDepth 100000 in
theorem q190 : xMc 190 = method_15_code := rfl
theorem m190 : xMl 190 = 3 ∧ xMret 190 = (some FieldType.int) := by decide +kernel
theorem e190 {X : xX} {d : Nat} {w : xH} {Q : xO → xH → Prop} (x0 : Nat) (x1 : Nat) : Cw X d 190 [.ref x0, .ref x1] w Q = Wx X d 190 0 [some (.ref x0), some (.ref x1), none] [] w Q := by
  unfold Cw
  rw [m190.1]
  rfl
theorem d190_0 : decode method_15_code 0 = .ok (.aload_n 1, 1) := by decide +kernel
theorem d190_1 : decode method_15_code 1 = .ok (.iconst 0, 1) := by decide +kernel
theorem d190_2 : decode method_15_code 2 = .ok (.aload_n 0, 1) := by decide +kernel
theorem d190_3 : decode method_15_code 3 = .ok (.invokevirtual 53, 3) := by decide +kernel
theorem k190_53_10 : xCa (xMo 190) 53 10 = some (1, 30, 0) := by decide +kernel
theorem n190_53 : xcn (xMo 190) 53 = some 0 := by decide +kernel
theorem d190_6 : decode method_15_code 6 = .ok (.i2l, 1) := by decide +kernel
theorem d190_7 : decode method_15_code 7 = .ok (.lastore, 1) := by decide +kernel
theorem d190_8 : decode method_15_code 8 = .ok (.goto 6, 3) := by decide +kernel
theorem d190_11 : decode method_15_code 11 = .ok (.astore_n 2, 1) := by decide +kernel
theorem d190_12 : decode method_15_code 12 = .ok (.iconst 1, 1) := by decide +kernel
theorem d190_13 : decode method_15_code 13 = .ok (.ireturn, 1) := by decide +kernel
theorem d190_14 : decode method_15_code 14 = .ok (.iconst 0, 1) := by decide +kernel
theorem d190_15 : decode method_15_code 15 = .ok (.ireturn, 1) := by decide +kernel
set_option maxRecDepth 100000 in
theorem q191 : xMc 191 = method_16_code := rfl
theorem m191 : xMl 191 = 4 ∧ xMret 191 = (some FieldType.int) := by decide +kernel
theorem e191 {X : xX} {d : Nat} {w : xH} {Q : xO → xH → Prop} (x0 : Nat) (x1 : Int32) (x2 : Nat) : Cw X d 191 [.ref x0, .int x1, .ref x2] w Q = Wx X d 191 0 [some (.ref x0), some (.int x1), some (.ref x2), none] [] w Q := by
  unfold Cw
  rw [m191.1]
  rfl
theorem d191_0 : decode method_16_code 0 = .ok (.aload_n 2, 1) := by decide +kernel
theorem d191_1 : decode method_16_code 1 = .ok (.iconst 0, 1) := by decide +kernel
theorem d191_2 : decode method_16_code 2 = .ok (.aload_n 0, 1) := by decide +kernel
theorem d191_3 : decode method_16_code 3 = .ok (.iload_n 1, 1) := by decide +kernel
theorem d191_4 : decode method_16_code 4 = .ok (.invokevirtual 56, 3) := by decide +kernel
theorem k191_56_10 : xCa (xMo 191) 56 10 = some (1, 31, 1) := by decide +kernel
theorem n191_56 : xcn (xMo 191) 56 = some 1 := by decide +kernel
theorem d191_7 : decode method_16_code 7 = .ok (.ifCond .eq 7, 3) := by decide +kernel
theorem d191_10 : decode method_16_code 10 = .ok (.lconst 1, 1) := by decide +kernel
theorem d191_11 : decode method_16_code 11 = .ok (.goto 4, 3) := by decide +kernel
theorem d191_14 : decode method_16_code 14 = .ok (.lconst 0, 1) := by decide +kernel
theorem d191_15 : decode method_16_code 15 = .ok (.lastore, 1) := by decide +kernel
theorem d191_16 : decode method_16_code 16 = .ok (.goto 6, 3) := by decide +kernel
theorem d191_19 : decode method_16_code 19 = .ok (.astore_n 3, 1) := by decide +kernel
theorem d191_20 : decode method_16_code 20 = .ok (.iconst 1, 1) := by decide +kernel
theorem d191_21 : decode method_16_code 21 = .ok (.ireturn, 1) := by decide +kernel
theorem d191_22 : decode method_16_code 22 = .ok (.iconst 0, 1) := by decide +kernel
theorem d191_23 : decode method_16_code 23 = .ok (.ireturn, 1) := by decide +kernel
set_option maxRecDepth 100000 in
theorem q192 : xMc 192 = method_17_code := rfl
theorem m192 : xMl 192 = 4 ∧ xMret 192 = (some FieldType.int) := by decide +kernel
theorem e192 {X : xX} {d : Nat} {w : xH} {Q : xO → xH → Prop} (x0 : Nat) (x1 : Int32) (x2 : Nat) : Cw X d 192 [.ref x0, .int x1, .ref x2] w Q = Wx X d 192 0 [some (.ref x0), some (.int x1), some (.ref x2), none] [] w Q := by
  unfold Cw
  rw [m192.1]
  rfl
theorem d192_0 : decode method_17_code 0 = .ok (.aload_n 2, 1) := by decide +kernel
theorem d192_1 : decode method_17_code 1 = .ok (.iconst 0, 1) := by decide +kernel
theorem d192_2 : decode method_17_code 2 = .ok (.aload_n 0, 1) := by decide +kernel
theorem d192_3 : decode method_17_code 3 = .ok (.iload_n 1, 1) := by decide +kernel
theorem d192_4 : decode method_17_code 4 = .ok (.invokevirtual 60, 3) := by decide +kernel
theorem k192_60_10 : xCa (xMo 192) 60 10 = some (1, 32, 1) := by decide +kernel
theorem n192_60 : xcn (xMo 192) 60 = some 1 := by decide +kernel
theorem d192_7 : decode method_17_code 7 = .ok (.ifCond .eq 7, 3) := by decide +kernel
theorem d192_10 : decode method_17_code 10 = .ok (.lconst 1, 1) := by decide +kernel
theorem d192_11 : decode method_17_code 11 = .ok (.goto 4, 3) := by decide +kernel
theorem d192_14 : decode method_17_code 14 = .ok (.lconst 0, 1) := by decide +kernel
theorem d192_15 : decode method_17_code 15 = .ok (.lastore, 1) := by decide +kernel
theorem d192_16 : decode method_17_code 16 = .ok (.goto 6, 3) := by decide +kernel
theorem d192_19 : decode method_17_code 19 = .ok (.astore_n 3, 1) := by decide +kernel
theorem d192_20 : decode method_17_code 20 = .ok (.iconst 1, 1) := by decide +kernel
theorem d192_21 : decode method_17_code 21 = .ok (.ireturn, 1) := by decide +kernel
theorem d192_22 : decode method_17_code 22 = .ok (.iconst 0, 1) := by decide +kernel
theorem d192_23 : decode method_17_code 23 = .ok (.ireturn, 1) := by decide +kernel
set_option maxRecDepth 100000 in
theorem q193 : xMc 193 = method_18_code := rfl
theorem m193 : xMl 193 = 4 ∧ xMret 193 = (some FieldType.int) := by decide +kernel
theorem e193 {X : xX} {d : Nat} {w : xH} {Q : xO → xH → Prop} (x0 : Nat) (x1 : Int32) (x2 : Nat) : Cw X d 193 [.ref x0, .int x1, .ref x2] w Q = Wx X d 193 0 [some (.ref x0), some (.int x1), some (.ref x2), none] [] w Q := by
  unfold Cw
  rw [m193.1]
  rfl
theorem d193_0 : decode method_18_code 0 = .ok (.aload_n 2, 1) := by decide +kernel
theorem d193_1 : decode method_18_code 1 = .ok (.iconst 0, 1) := by decide +kernel
theorem d193_2 : decode method_18_code 2 = .ok (.aload_n 0, 1) := by decide +kernel
theorem d193_3 : decode method_18_code 3 = .ok (.iload_n 1, 1) := by decide +kernel
theorem d193_4 : decode method_18_code 4 = .ok (.invokevirtual 63, 3) := by decide +kernel
theorem k193_63_10 : xCa (xMo 193) 63 10 = some (1, 33, 1) := by decide +kernel
theorem n193_63 : xcn (xMo 193) 63 = some 1 := by decide +kernel
theorem d193_7 : decode method_18_code 7 = .ok (.ifCond .eq 7, 3) := by decide +kernel
theorem d193_10 : decode method_18_code 10 = .ok (.lconst 1, 1) := by decide +kernel
theorem d193_11 : decode method_18_code 11 = .ok (.goto 4, 3) := by decide +kernel
theorem d193_14 : decode method_18_code 14 = .ok (.lconst 0, 1) := by decide +kernel
theorem d193_15 : decode method_18_code 15 = .ok (.lastore, 1) := by decide +kernel
theorem d193_16 : decode method_18_code 16 = .ok (.goto 6, 3) := by decide +kernel
theorem d193_19 : decode method_18_code 19 = .ok (.astore_n 3, 1) := by decide +kernel
theorem d193_20 : decode method_18_code 20 = .ok (.iconst 1, 1) := by decide +kernel
theorem d193_21 : decode method_18_code 21 = .ok (.ireturn, 1) := by decide +kernel
theorem d193_22 : decode method_18_code 22 = .ok (.iconst 0, 1) := by decide +kernel
theorem d193_23 : decode method_18_code 23 = .ok (.ireturn, 1) := by decide +kernel
set_option maxRecDepth 100000 in
theorem q194 : xMc 194 = method_19_code := rfl
theorem m194 : xMl 194 = 4 ∧ xMret 194 = (some FieldType.int) := by decide +kernel
theorem e194 {X : xX} {d : Nat} {w : xH} {Q : xO → xH → Prop} (x0 : Nat) (x1 : Int32) (x2 : Nat) : Cw X d 194 [.ref x0, .int x1, .ref x2] w Q = Wx X d 194 0 [some (.ref x0), some (.int x1), some (.ref x2), none] [] w Q := by
  unfold Cw
  rw [m194.1]
  rfl
theorem d194_0 : decode method_19_code 0 = .ok (.aload_n 2, 1) := by decide +kernel
theorem d194_1 : decode method_19_code 1 = .ok (.iconst 0, 1) := by decide +kernel
theorem d194_2 : decode method_19_code 2 = .ok (.aload_n 0, 1) := by decide +kernel
theorem d194_3 : decode method_19_code 3 = .ok (.iload_n 1, 1) := by decide +kernel
theorem d194_4 : decode method_19_code 4 = .ok (.invokevirtual 66, 3) := by decide +kernel
theorem k194_66_10 : xCa (xMo 194) 66 10 = some (1, 35, 1) := by decide +kernel
theorem n194_66 : xcn (xMo 194) 66 = some 1 := by decide +kernel
theorem d194_7 : decode method_19_code 7 = .ok (.i2l, 1) := by decide +kernel
theorem d194_8 : decode method_19_code 8 = .ok (.lastore, 1) := by decide +kernel
theorem d194_9 : decode method_19_code 9 = .ok (.goto 9, 3) := by decide +kernel
theorem d194_12 : decode method_19_code 12 = .ok (.astore_n 3, 1) := by decide +kernel
theorem d194_13 : decode method_19_code 13 = .ok (.iconst 1, 1) := by decide +kernel
theorem d194_14 : decode method_19_code 14 = .ok (.ireturn, 1) := by decide +kernel
theorem d194_15 : decode method_19_code 15 = .ok (.astore_n 3, 1) := by decide +kernel
theorem d194_16 : decode method_19_code 16 = .ok (.iconst 2, 1) := by decide +kernel
theorem d194_17 : decode method_19_code 17 = .ok (.ireturn, 1) := by decide +kernel
theorem d194_18 : decode method_19_code 18 = .ok (.iconst 0, 1) := by decide +kernel
theorem d194_19 : decode method_19_code 19 = .ok (.ireturn, 1) := by decide +kernel
set_option maxRecDepth 100000 in
theorem q195 : xMc 195 = method_20_code := rfl
theorem m195 : xMl 195 = 4 ∧ xMret 195 = (some FieldType.int) := by decide +kernel
theorem e195 {X : xX} {d : Nat} {w : xH} {Q : xO → xH → Prop} (x0 : Nat) (x1 : Int32) (x2 : Nat) : Cw X d 195 [.ref x0, .int x1, .ref x2] w Q = Wx X d 195 0 [some (.ref x0), some (.int x1), some (.ref x2), none] [] w Q := by
  unfold Cw
  rw [m195.1]
  rfl
theorem d195_0 : decode method_20_code 0 = .ok (.aload_n 2, 1) := by decide +kernel
theorem d195_1 : decode method_20_code 1 = .ok (.iconst 0, 1) := by decide +kernel
theorem d195_2 : decode method_20_code 2 = .ok (.aload_n 0, 1) := by decide +kernel
theorem d195_3 : decode method_20_code 3 = .ok (.iload_n 1, 1) := by decide +kernel
theorem d195_4 : decode method_20_code 4 = .ok (.invokevirtual 69, 3) := by decide +kernel
theorem k195_69_10 : xCa (xMo 195) 69 10 = some (1, 37, 1) := by decide +kernel
theorem n195_69 : xcn (xMo 195) 69 = some 1 := by decide +kernel
theorem d195_7 : decode method_20_code 7 = .ok (.i2l, 1) := by decide +kernel
theorem d195_8 : decode method_20_code 8 = .ok (.lastore, 1) := by decide +kernel
theorem d195_9 : decode method_20_code 9 = .ok (.goto 9, 3) := by decide +kernel
theorem d195_12 : decode method_20_code 12 = .ok (.astore_n 3, 1) := by decide +kernel
theorem d195_13 : decode method_20_code 13 = .ok (.iconst 1, 1) := by decide +kernel
theorem d195_14 : decode method_20_code 14 = .ok (.ireturn, 1) := by decide +kernel
theorem d195_15 : decode method_20_code 15 = .ok (.astore_n 3, 1) := by decide +kernel
theorem d195_16 : decode method_20_code 16 = .ok (.iconst 2, 1) := by decide +kernel
theorem d195_17 : decode method_20_code 17 = .ok (.ireturn, 1) := by decide +kernel
theorem d195_18 : decode method_20_code 18 = .ok (.iconst 0, 1) := by decide +kernel
theorem d195_19 : decode method_20_code 19 = .ok (.ireturn, 1) := by decide +kernel
set_option maxRecDepth 100000 in
theorem q196 : xMc 196 = method_21_code := rfl
theorem m196 : xMl 196 = 4 ∧ xMret 196 = (some FieldType.int) := by decide +kernel
theorem e196 {X : xX} {d : Nat} {w : xH} {Q : xO → xH → Prop} (x0 : Nat) (x1 : Int32) (x2 : Nat) : Cw X d 196 [.ref x0, .int x1, .ref x2] w Q = Wx X d 196 0 [some (.ref x0), some (.int x1), some (.ref x2), none] [] w Q := by
  unfold Cw
  rw [m196.1]
  rfl
theorem d196_0 : decode method_21_code 0 = .ok (.aload_n 2, 1) := by decide +kernel
theorem d196_1 : decode method_21_code 1 = .ok (.iconst 0, 1) := by decide +kernel
theorem d196_2 : decode method_21_code 2 = .ok (.aload_n 0, 1) := by decide +kernel
theorem d196_3 : decode method_21_code 3 = .ok (.iload_n 1, 1) := by decide +kernel
theorem d196_4 : decode method_21_code 4 = .ok (.invokevirtual 72, 3) := by decide +kernel
theorem k196_72_10 : xCa (xMo 196) 72 10 = some (1, 38, 1) := by decide +kernel
theorem n196_72 : xcn (xMo 196) 72 = some 1 := by decide +kernel
theorem d196_7 : decode method_21_code 7 = .ok (.ifCond .eq 7, 3) := by decide +kernel
theorem d196_10 : decode method_21_code 10 = .ok (.lconst 1, 1) := by decide +kernel
theorem d196_11 : decode method_21_code 11 = .ok (.goto 4, 3) := by decide +kernel
theorem d196_14 : decode method_21_code 14 = .ok (.lconst 0, 1) := by decide +kernel
theorem d196_15 : decode method_21_code 15 = .ok (.lastore, 1) := by decide +kernel
theorem d196_16 : decode method_21_code 16 = .ok (.goto 6, 3) := by decide +kernel
theorem d196_19 : decode method_21_code 19 = .ok (.astore_n 3, 1) := by decide +kernel
theorem d196_20 : decode method_21_code 20 = .ok (.iconst 1, 1) := by decide +kernel
theorem d196_21 : decode method_21_code 21 = .ok (.ireturn, 1) := by decide +kernel
theorem d196_22 : decode method_21_code 22 = .ok (.iconst 0, 1) := by decide +kernel
theorem d196_23 : decode method_21_code 23 = .ok (.ireturn, 1) := by decide +kernel
set_option maxRecDepth 100000 in
theorem q197 : xMc 197 = method_22_code := rfl
theorem m197 : xMl 197 = 4 ∧ xMret 197 = (some FieldType.int) := by decide +kernel
theorem e197 {X : xX} {d : Nat} {w : xH} {Q : xO → xH → Prop} (x0 : Nat) (x1 : Int32) (x2 : Nat) : Cw X d 197 [.ref x0, .int x1, .ref x2] w Q = Wx X d 197 0 [some (.ref x0), some (.int x1), some (.ref x2), none] [] w Q := by
  unfold Cw
  rw [m197.1]
  rfl
theorem d197_0 : decode method_22_code 0 = .ok (.aload_n 2, 1) := by decide +kernel
theorem d197_1 : decode method_22_code 1 = .ok (.iconst 0, 1) := by decide +kernel
theorem d197_2 : decode method_22_code 2 = .ok (.aload_n 0, 1) := by decide +kernel
theorem d197_3 : decode method_22_code 3 = .ok (.iload_n 1, 1) := by decide +kernel
theorem d197_4 : decode method_22_code 4 = .ok (.invokevirtual 75, 3) := by decide +kernel
theorem k197_75_10 : xCa (xMo 197) 75 10 = some (1, 39, 1) := by decide +kernel
theorem n197_75 : xcn (xMo 197) 75 = some 1 := by decide +kernel
theorem d197_7 : decode method_22_code 7 = .ok (.ifCond .eq 7, 3) := by decide +kernel
theorem d197_10 : decode method_22_code 10 = .ok (.lconst 1, 1) := by decide +kernel
theorem d197_11 : decode method_22_code 11 = .ok (.goto 4, 3) := by decide +kernel
theorem d197_14 : decode method_22_code 14 = .ok (.lconst 0, 1) := by decide +kernel
theorem d197_15 : decode method_22_code 15 = .ok (.lastore, 1) := by decide +kernel
theorem d197_16 : decode method_22_code 16 = .ok (.goto 6, 3) := by decide +kernel
theorem d197_19 : decode method_22_code 19 = .ok (.astore_n 3, 1) := by decide +kernel
theorem d197_20 : decode method_22_code 20 = .ok (.iconst 1, 1) := by decide +kernel
theorem d197_21 : decode method_22_code 21 = .ok (.ireturn, 1) := by decide +kernel
theorem d197_22 : decode method_22_code 22 = .ok (.iconst 0, 1) := by decide +kernel
theorem d197_23 : decode method_22_code 23 = .ok (.ireturn, 1) := by decide +kernel
set_option maxRecDepth 100000 in
theorem q198 : xMc 198 = method_23_code := rfl
theorem m198 : xMl 198 = 4 ∧ xMret 198 = (some FieldType.int) := by decide +kernel
theorem e198 {X : xX} {d : Nat} {w : xH} {Q : xO → xH → Prop} (x0 : Nat) (x1 : Int32) (x2 : Nat) : Cw X d 198 [.ref x0, .int x1, .ref x2] w Q = Wx X d 198 0 [some (.ref x0), some (.int x1), some (.ref x2), none] [] w Q := by
  unfold Cw
  rw [m198.1]
  rfl
theorem d198_0 : decode method_23_code 0 = .ok (.aload_n 2, 1) := by decide +kernel
theorem d198_1 : decode method_23_code 1 = .ok (.iconst 0, 1) := by decide +kernel
theorem d198_2 : decode method_23_code 2 = .ok (.aload_n 0, 1) := by decide +kernel
theorem d198_3 : decode method_23_code 3 = .ok (.iload_n 1, 1) := by decide +kernel
theorem d198_4 : decode method_23_code 4 = .ok (.invokevirtual 78, 3) := by decide +kernel
theorem k198_78_10 : xCa (xMo 198) 78 10 = some (1, 40, 1) := by decide +kernel
theorem n198_78 : xcn (xMo 198) 78 = some 1 := by decide +kernel
theorem d198_7 : decode method_23_code 7 = .ok (.ifCond .eq 7, 3) := by decide +kernel
theorem d198_10 : decode method_23_code 10 = .ok (.lconst 1, 1) := by decide +kernel
theorem d198_11 : decode method_23_code 11 = .ok (.goto 4, 3) := by decide +kernel
theorem d198_14 : decode method_23_code 14 = .ok (.lconst 0, 1) := by decide +kernel
theorem d198_15 : decode method_23_code 15 = .ok (.lastore, 1) := by decide +kernel
theorem d198_16 : decode method_23_code 16 = .ok (.goto 6, 3) := by decide +kernel
theorem d198_19 : decode method_23_code 19 = .ok (.astore_n 3, 1) := by decide +kernel
theorem d198_20 : decode method_23_code 20 = .ok (.iconst 1, 1) := by decide +kernel
theorem d198_21 : decode method_23_code 21 = .ok (.ireturn, 1) := by decide +kernel
theorem d198_22 : decode method_23_code 22 = .ok (.iconst 0, 1) := by decide +kernel
theorem d198_23 : decode method_23_code 23 = .ok (.ireturn, 1) := by decide +kernel
set_option maxRecDepth 100000 in
theorem q199 : xMc 199 = method_24_code := rfl
theorem m199 : xMl 199 = 4 ∧ xMret 199 = (some FieldType.int) := by decide +kernel
theorem e199 {X : xX} {d : Nat} {w : xH} {Q : xO → xH → Prop} (x0 : Nat) (x1 : Int32) (x2 : Nat) : Cw X d 199 [.ref x0, .int x1, .ref x2] w Q = Wx X d 199 0 [some (.ref x0), some (.int x1), some (.ref x2), none] [] w Q := by
  unfold Cw
  rw [m199.1]
  rfl
theorem d199_0 : decode method_24_code 0 = .ok (.aload_n 2, 1) := by decide +kernel
theorem d199_1 : decode method_24_code 1 = .ok (.iconst 0, 1) := by decide +kernel
theorem d199_2 : decode method_24_code 2 = .ok (.aload_n 0, 1) := by decide +kernel
theorem d199_3 : decode method_24_code 3 = .ok (.iload_n 1, 1) := by decide +kernel
theorem d199_4 : decode method_24_code 4 = .ok (.invokevirtual 81, 3) := by decide +kernel
theorem k199_81_10 : xCa (xMo 199) 81 10 = some (1, 41, 1) := by decide +kernel
theorem n199_81 : xcn (xMo 199) 81 = some 1 := by decide +kernel
theorem d199_7 : decode method_24_code 7 = .ok (.ifCond .eq 7, 3) := by decide +kernel
theorem d199_10 : decode method_24_code 10 = .ok (.lconst 1, 1) := by decide +kernel
theorem d199_11 : decode method_24_code 11 = .ok (.goto 4, 3) := by decide +kernel
theorem d199_14 : decode method_24_code 14 = .ok (.lconst 0, 1) := by decide +kernel
theorem d199_15 : decode method_24_code 15 = .ok (.lastore, 1) := by decide +kernel
theorem d199_16 : decode method_24_code 16 = .ok (.goto 6, 3) := by decide +kernel
theorem d199_19 : decode method_24_code 19 = .ok (.astore_n 3, 1) := by decide +kernel
theorem d199_20 : decode method_24_code 20 = .ok (.iconst 1, 1) := by decide +kernel
theorem d199_21 : decode method_24_code 21 = .ok (.ireturn, 1) := by decide +kernel
theorem d199_22 : decode method_24_code 22 = .ok (.iconst 0, 1) := by decide +kernel
theorem d199_23 : decode method_24_code 23 = .ok (.ireturn, 1) := by decide +kernel
set_option maxRecDepth 100000 in
theorem q200 : xMc 200 = method_25_code := rfl
theorem m200 : xMl 200 = 4 ∧ xMret 200 = (some FieldType.int) := by decide +kernel
theorem e200 {X : xX} {d : Nat} {w : xH} {Q : xO → xH → Prop} (x0 : Nat) (x1 : Int32) (x2 : Nat) : Cw X d 200 [.ref x0, .int x1, .ref x2] w Q = Wx X d 200 0 [some (.ref x0), some (.int x1), some (.ref x2), none] [] w Q := by
  unfold Cw
  rw [m200.1]
  rfl
theorem d200_0 : decode method_25_code 0 = .ok (.aload_n 2, 1) := by decide +kernel
theorem d200_1 : decode method_25_code 1 = .ok (.iconst 0, 1) := by decide +kernel
theorem d200_2 : decode method_25_code 2 = .ok (.aload_n 0, 1) := by decide +kernel
theorem d200_3 : decode method_25_code 3 = .ok (.iload_n 1, 1) := by decide +kernel
theorem d200_4 : decode method_25_code 4 = .ok (.invokevirtual 84, 3) := by decide +kernel
theorem k200_84_10 : xCa (xMo 200) 84 10 = some (1, 42, 1) := by decide +kernel
theorem n200_84 : xcn (xMo 200) 84 = some 1 := by decide +kernel
theorem d200_7 : decode method_25_code 7 = .ok (.ifCond .eq 7, 3) := by decide +kernel
theorem d200_10 : decode method_25_code 10 = .ok (.lconst 1, 1) := by decide +kernel
theorem d200_11 : decode method_25_code 11 = .ok (.goto 4, 3) := by decide +kernel
theorem d200_14 : decode method_25_code 14 = .ok (.lconst 0, 1) := by decide +kernel
theorem d200_15 : decode method_25_code 15 = .ok (.lastore, 1) := by decide +kernel
theorem d200_16 : decode method_25_code 16 = .ok (.goto 6, 3) := by decide +kernel
theorem d200_19 : decode method_25_code 19 = .ok (.astore_n 3, 1) := by decide +kernel
theorem d200_20 : decode method_25_code 20 = .ok (.iconst 1, 1) := by decide +kernel
theorem d200_21 : decode method_25_code 21 = .ok (.ireturn, 1) := by decide +kernel
theorem d200_22 : decode method_25_code 22 = .ok (.iconst 0, 1) := by decide +kernel
theorem d200_23 : decode method_25_code 23 = .ok (.ireturn, 1) := by decide +kernel
set_option maxRecDepth 100000 in
theorem q201 : xMc 201 = method_26_code := rfl
theorem m201 : xMl 201 = 4 ∧ xMret 201 = (some FieldType.int) := by decide +kernel
theorem e201 {X : xX} {d : Nat} {w : xH} {Q : xO → xH → Prop} (x0 : Nat) (x1 : Int32) (x2 : Nat) : Cw X d 201 [.ref x0, .int x1, .ref x2] w Q = Wx X d 201 0 [some (.ref x0), some (.int x1), some (.ref x2), none] [] w Q := by
  unfold Cw
  rw [m201.1]
  rfl
theorem d201_0 : decode method_26_code 0 = .ok (.aload_n 2, 1) := by decide +kernel
theorem d201_1 : decode method_26_code 1 = .ok (.iconst 0, 1) := by decide +kernel
theorem d201_2 : decode method_26_code 2 = .ok (.aload_n 0, 1) := by decide +kernel
theorem d201_3 : decode method_26_code 3 = .ok (.iload_n 1, 1) := by decide +kernel
theorem d201_4 : decode method_26_code 4 = .ok (.invokevirtual 87, 3) := by decide +kernel
theorem k201_87_10 : xCa (xMo 201) 87 10 = some (1, 43, 1) := by decide +kernel
theorem n201_87 : xcn (xMo 201) 87 = some 1 := by decide +kernel
theorem d201_7 : decode method_26_code 7 = .ok (.i2l, 1) := by decide +kernel
theorem d201_8 : decode method_26_code 8 = .ok (.lastore, 1) := by decide +kernel
theorem d201_9 : decode method_26_code 9 = .ok (.goto 6, 3) := by decide +kernel
theorem d201_12 : decode method_26_code 12 = .ok (.astore_n 3, 1) := by decide +kernel
theorem d201_13 : decode method_26_code 13 = .ok (.iconst 1, 1) := by decide +kernel
theorem d201_14 : decode method_26_code 14 = .ok (.ireturn, 1) := by decide +kernel
theorem d201_15 : decode method_26_code 15 = .ok (.iconst 0, 1) := by decide +kernel
theorem d201_16 : decode method_26_code 16 = .ok (.ireturn, 1) := by decide +kernel
set_option maxRecDepth 100000 in
theorem q202 : xMc 202 = method_27_code := rfl
theorem m202 : xMl 202 = 5 ∧ xMret 202 = (some FieldType.int) := by decide +kernel
theorem e202 {X : xX} {d : Nat} {w : xH} {Q : xO → xH → Prop} (x0 : Nat) (x1 : Int32) (x2 : Int32) (x3 : Nat) : Cw X d 202 [.ref x0, .int x1, .int x2, .ref x3] w Q = Wx X d 202 0 [some (.ref x0), some (.int x1), some (.int x2), some (.ref x3), none] [] w Q := by
  unfold Cw
  rw [m202.1]
  rfl
theorem d202_0 : decode method_27_code 0 = .ok (.aload_n 3, 1) := by decide +kernel
theorem d202_1 : decode method_27_code 1 = .ok (.iconst 0, 1) := by decide +kernel
theorem d202_2 : decode method_27_code 2 = .ok (.aload_n 0, 1) := by decide +kernel
theorem d202_3 : decode method_27_code 3 = .ok (.iload_n 1, 1) := by decide +kernel
theorem d202_4 : decode method_27_code 4 = .ok (.iload_n 2, 1) := by decide +kernel
theorem d202_5 : decode method_27_code 5 = .ok (.invokevirtual 90, 3) := by decide +kernel
theorem k202_90_10 : xCa (xMo 202) 90 10 = some (1, 45, 2) := by decide +kernel
theorem n202_90 : xcn (xMo 202) 90 = some 2 := by decide +kernel
theorem d202_8 : decode method_27_code 8 = .ok (.i2l, 1) := by decide +kernel
theorem d202_9 : decode method_27_code 9 = .ok (.lastore, 1) := by decide +kernel
theorem d202_10 : decode method_27_code 10 = .ok (.goto 7, 3) := by decide +kernel
theorem d202_13 : decode method_27_code 13 = .ok (.astore 4, 2) := by decide +kernel
theorem d202_15 : decode method_27_code 15 = .ok (.iconst 1, 1) := by decide +kernel
theorem d202_16 : decode method_27_code 16 = .ok (.ireturn, 1) := by decide +kernel
theorem d202_17 : decode method_27_code 17 = .ok (.iconst 0, 1) := by decide +kernel
theorem d202_18 : decode method_27_code 18 = .ok (.ireturn, 1) := by decide +kernel
set_option maxRecDepth 100000 in
theorem q203 : xMc 203 = method_28_code := rfl
theorem m203 : xMl 203 = 4 ∧ xMret 203 = (some FieldType.int) := by decide +kernel
theorem e203 {X : xX} {d : Nat} {w : xH} {Q : xO → xH → Prop} (x0 : Nat) (x1 : Int32) (x2 : Nat) : Cw X d 203 [.ref x0, .int x1, .ref x2] w Q = Wx X d 203 0 [some (.ref x0), some (.int x1), some (.ref x2), none] [] w Q := by
  unfold Cw
  rw [m203.1]
  rfl
theorem d203_0 : decode method_28_code 0 = .ok (.aload_n 2, 1) := by decide +kernel
theorem d203_1 : decode method_28_code 1 = .ok (.iconst 0, 1) := by decide +kernel
theorem d203_2 : decode method_28_code 2 = .ok (.aload_n 0, 1) := by decide +kernel
theorem d203_3 : decode method_28_code 3 = .ok (.iload_n 1, 1) := by decide +kernel
theorem d203_4 : decode method_28_code 4 = .ok (.invokevirtual 93, 3) := by decide +kernel
theorem k203_93_10 : xCa (xMo 203) 93 10 = some (1, 47, 1) := by decide +kernel
theorem n203_93 : xcn (xMo 203) 93 = some 1 := by decide +kernel
theorem d203_7 : decode method_28_code 7 = .ok (.i2l, 1) := by decide +kernel
theorem d203_8 : decode method_28_code 8 = .ok (.lastore, 1) := by decide +kernel
theorem d203_9 : decode method_28_code 9 = .ok (.goto 6, 3) := by decide +kernel
theorem d203_12 : decode method_28_code 12 = .ok (.astore_n 3, 1) := by decide +kernel
theorem d203_13 : decode method_28_code 13 = .ok (.iconst 1, 1) := by decide +kernel
theorem d203_14 : decode method_28_code 14 = .ok (.ireturn, 1) := by decide +kernel
theorem d203_15 : decode method_28_code 15 = .ok (.iconst 0, 1) := by decide +kernel
theorem d203_16 : decode method_28_code 16 = .ok (.ireturn, 1) := by decide +kernel
set_option maxRecDepth 100000 in
theorem q204 : xMc 204 = method_29_code := rfl
theorem m204 : xMl 204 = 5 ∧ xMret 204 = (some FieldType.int) := by decide +kernel
theorem e204 {X : xX} {d : Nat} {w : xH} {Q : xO → xH → Prop} (x0 : Nat) (x1 : Int32) (x2 : Int32) (x3 : Nat) : Cw X d 204 [.ref x0, .int x1, .int x2, .ref x3] w Q = Wx X d 204 0 [some (.ref x0), some (.int x1), some (.int x2), some (.ref x3), none] [] w Q := by
  unfold Cw
  rw [m204.1]
  rfl
theorem d204_0 : decode method_29_code 0 = .ok (.aload_n 3, 1) := by decide +kernel
theorem d204_1 : decode method_29_code 1 = .ok (.iconst 0, 1) := by decide +kernel
theorem d204_2 : decode method_29_code 2 = .ok (.aload_n 0, 1) := by decide +kernel
theorem d204_3 : decode method_29_code 3 = .ok (.iload_n 1, 1) := by decide +kernel
theorem d204_4 : decode method_29_code 4 = .ok (.iload_n 2, 1) := by decide +kernel
theorem d204_5 : decode method_29_code 5 = .ok (.invokevirtual 96, 3) := by decide +kernel
theorem k204_96_10 : xCa (xMo 204) 96 10 = some (1, 48, 2) := by decide +kernel
theorem n204_96 : xcn (xMo 204) 96 = some 2 := by decide +kernel
theorem d204_8 : decode method_29_code 8 = .ok (.i2l, 1) := by decide +kernel
theorem d204_9 : decode method_29_code 9 = .ok (.lastore, 1) := by decide +kernel
theorem d204_10 : decode method_29_code 10 = .ok (.goto 7, 3) := by decide +kernel
theorem d204_13 : decode method_29_code 13 = .ok (.astore 4, 2) := by decide +kernel
theorem d204_15 : decode method_29_code 15 = .ok (.iconst 1, 1) := by decide +kernel
theorem d204_16 : decode method_29_code 16 = .ok (.ireturn, 1) := by decide +kernel
theorem d204_17 : decode method_29_code 17 = .ok (.iconst 0, 1) := by decide +kernel
theorem d204_18 : decode method_29_code 18 = .ok (.ireturn, 1) := by decide +kernel
set_option maxRecDepth 100000 in
theorem q205 : xMc 205 = method_30_code := rfl
theorem m205 : xMl 205 = 4 ∧ xMret 205 = (some FieldType.int) := by decide +kernel
theorem e205 {X : xX} {d : Nat} {w : xH} {Q : xO → xH → Prop} (x0 : Nat) (x1 : Int32) (x2 : Nat) : Cw X d 205 [.ref x0, .int x1, .ref x2] w Q = Wx X d 205 0 [some (.ref x0), some (.int x1), some (.ref x2), none] [] w Q := by
  unfold Cw
  rw [m205.1]
  rfl
theorem d205_0 : decode method_30_code 0 = .ok (.aload_n 2, 1) := by decide +kernel
theorem d205_1 : decode method_30_code 1 = .ok (.iconst 0, 1) := by decide +kernel
theorem d205_2 : decode method_30_code 2 = .ok (.aload_n 0, 1) := by decide +kernel
theorem d205_3 : decode method_30_code 3 = .ok (.iload_n 1, 1) := by decide +kernel
theorem d205_4 : decode method_30_code 4 = .ok (.invokevirtual 99, 3) := by decide +kernel
theorem k205_99_10 : xCa (xMo 205) 99 10 = some (1, 49, 1) := by decide +kernel
theorem n205_99 : xcn (xMo 205) 99 = some 1 := by decide +kernel
theorem d205_7 : decode method_30_code 7 = .ok (.i2l, 1) := by decide +kernel
theorem d205_8 : decode method_30_code 8 = .ok (.lastore, 1) := by decide +kernel
theorem d205_9 : decode method_30_code 9 = .ok (.goto 6, 3) := by decide +kernel
theorem d205_12 : decode method_30_code 12 = .ok (.astore_n 3, 1) := by decide +kernel
theorem d205_13 : decode method_30_code 13 = .ok (.iconst 1, 1) := by decide +kernel
theorem d205_14 : decode method_30_code 14 = .ok (.ireturn, 1) := by decide +kernel
theorem d205_15 : decode method_30_code 15 = .ok (.iconst 0, 1) := by decide +kernel
theorem d205_16 : decode method_30_code 16 = .ok (.ireturn, 1) := by decide +kernel
set_option maxRecDepth 100000 in
theorem q206 : xMc 206 = method_31_code := rfl
theorem m206 : xMl 206 = 4 ∧ xMret 206 = (some FieldType.int) := by decide +kernel
theorem e206 {X : xX} {d : Nat} {w : xH} {Q : xO → xH → Prop} (x0 : Nat) (x1 : Int32) (x2 : Nat) : Cw X d 206 [.ref x0, .int x1, .ref x2] w Q = Wx X d 206 0 [some (.ref x0), some (.int x1), some (.ref x2), none] [] w Q := by
  unfold Cw
  rw [m206.1]
  rfl
theorem d206_0 : decode method_31_code 0 = .ok (.aload_n 2, 1) := by decide +kernel
theorem d206_1 : decode method_31_code 1 = .ok (.iconst 0, 1) := by decide +kernel
theorem d206_2 : decode method_31_code 2 = .ok (.aload_n 0, 1) := by decide +kernel
theorem d206_3 : decode method_31_code 3 = .ok (.iload_n 1, 1) := by decide +kernel
theorem d206_4 : decode method_31_code 4 = .ok (.invokevirtual 102, 3) := by decide +kernel
theorem k206_102_10 : xCa (xMo 206) 102 10 = some (1, 50, 1) := by decide +kernel
theorem n206_102 : xcn (xMo 206) 102 = some 1 := by decide +kernel
theorem d206_7 : decode method_31_code 7 = .ok (.i2l, 1) := by decide +kernel
theorem d206_8 : decode method_31_code 8 = .ok (.lastore, 1) := by decide +kernel
theorem d206_9 : decode method_31_code 9 = .ok (.goto 6, 3) := by decide +kernel
theorem d206_12 : decode method_31_code 12 = .ok (.astore_n 3, 1) := by decide +kernel
theorem d206_13 : decode method_31_code 13 = .ok (.iconst 1, 1) := by decide +kernel
theorem d206_14 : decode method_31_code 14 = .ok (.ireturn, 1) := by decide +kernel
theorem d206_15 : decode method_31_code 15 = .ok (.iconst 0, 1) := by decide +kernel
theorem d206_16 : decode method_31_code 16 = .ok (.ireturn, 1) := by decide +kernel
set_option maxRecDepth 100000 in
theorem q207 : xMc 207 = method_32_code := rfl
theorem m207 : xMl 207 = 5 ∧ xMret 207 = (some FieldType.int) := by decide +kernel
theorem e207 {X : xX} {d : Nat} {w : xH} {Q : xO → xH → Prop} (x0 : Nat) (x1 : Int32) (x2 : Int32) (x3 : Nat) : Cw X d 207 [.ref x0, .int x1, .int x2, .ref x3] w Q = Wx X d 207 0 [some (.ref x0), some (.int x1), some (.int x2), some (.ref x3), none] [] w Q := by
  unfold Cw
  rw [m207.1]
  rfl
theorem d207_0 : decode method_32_code 0 = .ok (.aload_n 3, 1) := by decide +kernel
theorem d207_1 : decode method_32_code 1 = .ok (.iconst 0, 1) := by decide +kernel
theorem d207_2 : decode method_32_code 2 = .ok (.aload_n 0, 1) := by decide +kernel
theorem d207_3 : decode method_32_code 3 = .ok (.iload_n 1, 1) := by decide +kernel
theorem d207_4 : decode method_32_code 4 = .ok (.iload_n 2, 1) := by decide +kernel
theorem d207_5 : decode method_32_code 5 = .ok (.invokevirtual 105, 3) := by decide +kernel
theorem k207_105_10 : xCa (xMo 207) 105 10 = some (1, 51, 2) := by decide +kernel
theorem n207_105 : xcn (xMo 207) 105 = some 2 := by decide +kernel
theorem d207_8 : decode method_32_code 8 = .ok (.ifCond .eq 7, 3) := by decide +kernel
theorem d207_11 : decode method_32_code 11 = .ok (.lconst 1, 1) := by decide +kernel
theorem d207_12 : decode method_32_code 12 = .ok (.goto 4, 3) := by decide +kernel
theorem d207_15 : decode method_32_code 15 = .ok (.lconst 0, 1) := by decide +kernel
theorem d207_16 : decode method_32_code 16 = .ok (.lastore, 1) := by decide +kernel
theorem d207_17 : decode method_32_code 17 = .ok (.goto 7, 3) := by decide +kernel
theorem d207_20 : decode method_32_code 20 = .ok (.astore 4, 2) := by decide +kernel
theorem d207_22 : decode method_32_code 22 = .ok (.iconst 1, 1) := by decide +kernel
theorem d207_23 : decode method_32_code 23 = .ok (.ireturn, 1) := by decide +kernel
theorem d207_24 : decode method_32_code 24 = .ok (.iconst 0, 1) := by decide +kernel
theorem d207_25 : decode method_32_code 25 = .ok (.ireturn, 1) := by decide +kernel
set_option maxRecDepth 100000 in
theorem q208 : xMc 208 = method_33_code := rfl
theorem m208 : xMl 208 = 4 ∧ xMret 208 = (some FieldType.int) := by decide +kernel
theorem e208 {X : xX} {d : Nat} {w : xH} {Q : xO → xH → Prop} (x0 : Nat) (x1 : Int32) (x2 : Nat) : Cw X d 208 [.ref x0, .int x1, .ref x2] w Q = Wx X d 208 0 [some (.ref x0), some (.int x1), some (.ref x2), none] [] w Q := by
  unfold Cw
  rw [m208.1]
  rfl
theorem d208_0 : decode method_33_code 0 = .ok (.aload_n 2, 1) := by decide +kernel
theorem d208_1 : decode method_33_code 1 = .ok (.iconst 0, 1) := by decide +kernel
theorem d208_2 : decode method_33_code 2 = .ok (.aload_n 0, 1) := by decide +kernel
theorem d208_3 : decode method_33_code 3 = .ok (.iload_n 1, 1) := by decide +kernel
theorem d208_4 : decode method_33_code 4 = .ok (.invokevirtual 109, 3) := by decide +kernel
theorem k208_109_10 : xCa (xMo 208) 109 10 = some (1, 52, 1) := by decide +kernel
theorem n208_109 : xcn (xMo 208) 109 = some 1 := by decide +kernel
theorem d208_7 : decode method_33_code 7 = .ok (.ifCond .eq 7, 3) := by decide +kernel
theorem d208_10 : decode method_33_code 10 = .ok (.lconst 1, 1) := by decide +kernel
theorem d208_11 : decode method_33_code 11 = .ok (.goto 4, 3) := by decide +kernel
theorem d208_14 : decode method_33_code 14 = .ok (.lconst 0, 1) := by decide +kernel
theorem d208_15 : decode method_33_code 15 = .ok (.lastore, 1) := by decide +kernel
theorem d208_16 : decode method_33_code 16 = .ok (.goto 6, 3) := by decide +kernel
theorem d208_19 : decode method_33_code 19 = .ok (.astore_n 3, 1) := by decide +kernel
theorem d208_20 : decode method_33_code 20 = .ok (.iconst 1, 1) := by decide +kernel
theorem d208_21 : decode method_33_code 21 = .ok (.ireturn, 1) := by decide +kernel
theorem d208_22 : decode method_33_code 22 = .ok (.iconst 0, 1) := by decide +kernel
theorem d208_23 : decode method_33_code 23 = .ok (.ireturn, 1) := by decide +kernel
set_option maxRecDepth 100000 in
theorem q209 : xMc 209 = method_34_code := rfl
theorem m209 : xMl 209 = 4 ∧ xMret 209 = (some FieldType.int) := by decide +kernel
theorem e209 {X : xX} {d : Nat} {w : xH} {Q : xO → xH → Prop} (x0 : Nat) (x1 : Int32) (x2 : Nat) : Cw X d 209 [.ref x0, .int x1, .ref x2] w Q = Wx X d 209 0 [some (.ref x0), some (.int x1), some (.ref x2), none] [] w Q := by
  unfold Cw
  rw [m209.1]
  rfl
theorem d209_0 : decode method_34_code 0 = .ok (.aload_n 2, 1) := by decide +kernel
theorem d209_1 : decode method_34_code 1 = .ok (.iconst 0, 1) := by decide +kernel
theorem d209_2 : decode method_34_code 2 = .ok (.aload_n 0, 1) := by decide +kernel
theorem d209_3 : decode method_34_code 3 = .ok (.iload_n 1, 1) := by decide +kernel
theorem d209_4 : decode method_34_code 4 = .ok (.invokevirtual 112, 3) := by decide +kernel
theorem k209_112_10 : xCa (xMo 209) 112 10 = some (1, 53, 1) := by decide +kernel
theorem n209_112 : xcn (xMo 209) 112 = some 1 := by decide +kernel
theorem d209_7 : decode method_34_code 7 = .ok (.i2l, 1) := by decide +kernel
theorem d209_8 : decode method_34_code 8 = .ok (.lastore, 1) := by decide +kernel
theorem d209_9 : decode method_34_code 9 = .ok (.goto 6, 3) := by decide +kernel
theorem d209_12 : decode method_34_code 12 = .ok (.astore_n 3, 1) := by decide +kernel
theorem d209_13 : decode method_34_code 13 = .ok (.iconst 1, 1) := by decide +kernel
theorem d209_14 : decode method_34_code 14 = .ok (.ireturn, 1) := by decide +kernel
theorem d209_15 : decode method_34_code 15 = .ok (.iconst 0, 1) := by decide +kernel
theorem d209_16 : decode method_34_code 16 = .ok (.ireturn, 1) := by decide +kernel
set_option maxRecDepth 100000 in
theorem q210 : xMc 210 = method_35_code := rfl
theorem m210 : xMl 210 = 4 ∧ xMret 210 = (some FieldType.int) := by decide +kernel
theorem e210 {X : xX} {d : Nat} {w : xH} {Q : xO → xH → Prop} (x0 : Nat) (x1 : Int32) (x2 : Nat) : Cw X d 210 [.ref x0, .int x1, .ref x2] w Q = Wx X d 210 0 [some (.ref x0), some (.int x1), some (.ref x2), none] [] w Q := by
  unfold Cw
  rw [m210.1]
  rfl
theorem d210_0 : decode method_35_code 0 = .ok (.aload_n 2, 1) := by decide +kernel
theorem d210_1 : decode method_35_code 1 = .ok (.iconst 0, 1) := by decide +kernel
theorem d210_2 : decode method_35_code 2 = .ok (.aload_n 0, 1) := by decide +kernel
theorem d210_3 : decode method_35_code 3 = .ok (.iload_n 1, 1) := by decide +kernel
theorem d210_4 : decode method_35_code 4 = .ok (.invokevirtual 115, 3) := by decide +kernel
theorem k210_115_10 : xCa (xMo 210) 115 10 = some (1, 54, 1) := by decide +kernel
theorem n210_115 : xcn (xMo 210) 115 = some 1 := by decide +kernel
theorem d210_7 : decode method_35_code 7 = .ok (.i2l, 1) := by decide +kernel
theorem d210_8 : decode method_35_code 8 = .ok (.lastore, 1) := by decide +kernel
theorem d210_9 : decode method_35_code 9 = .ok (.goto 6, 3) := by decide +kernel
theorem d210_12 : decode method_35_code 12 = .ok (.astore_n 3, 1) := by decide +kernel
theorem d210_13 : decode method_35_code 13 = .ok (.iconst 1, 1) := by decide +kernel
theorem d210_14 : decode method_35_code 14 = .ok (.ireturn, 1) := by decide +kernel
theorem d210_15 : decode method_35_code 15 = .ok (.iconst 0, 1) := by decide +kernel
theorem d210_16 : decode method_35_code 16 = .ok (.ireturn, 1) := by decide +kernel
set_option maxRecDepth 100000 in
theorem q211 : xMc 211 = method_36_code := rfl
theorem m211 : xMl 211 = 4 ∧ xMret 211 = (some FieldType.int) := by decide +kernel
theorem e211 {X : xX} {d : Nat} {w : xH} {Q : xO → xH → Prop} (x0 : Nat) (x1 : Int32) (x2 : Nat) : Cw X d 211 [.ref x0, .int x1, .ref x2] w Q = Wx X d 211 0 [some (.ref x0), some (.int x1), some (.ref x2), none] [] w Q := by
  unfold Cw
  rw [m211.1]
  rfl
theorem d211_0 : decode method_36_code 0 = .ok (.aload_n 2, 1) := by decide +kernel
theorem d211_1 : decode method_36_code 1 = .ok (.iconst 0, 1) := by decide +kernel
theorem d211_2 : decode method_36_code 2 = .ok (.aload_n 0, 1) := by decide +kernel
theorem d211_3 : decode method_36_code 3 = .ok (.iload_n 1, 1) := by decide +kernel
theorem d211_4 : decode method_36_code 4 = .ok (.invokevirtual 118, 3) := by decide +kernel
theorem k211_118_10 : xCa (xMo 211) 118 10 = some (1, 55, 1) := by decide +kernel
theorem n211_118 : xcn (xMo 211) 118 = some 1 := by decide +kernel
theorem d211_7 : decode method_36_code 7 = .ok (.i2l, 1) := by decide +kernel
theorem d211_8 : decode method_36_code 8 = .ok (.lastore, 1) := by decide +kernel
theorem d211_9 : decode method_36_code 9 = .ok (.goto 9, 3) := by decide +kernel
theorem d211_12 : decode method_36_code 12 = .ok (.astore_n 3, 1) := by decide +kernel
theorem d211_13 : decode method_36_code 13 = .ok (.iconst 1, 1) := by decide +kernel
theorem d211_14 : decode method_36_code 14 = .ok (.ireturn, 1) := by decide +kernel
theorem d211_15 : decode method_36_code 15 = .ok (.astore_n 3, 1) := by decide +kernel
theorem d211_16 : decode method_36_code 16 = .ok (.iconst 2, 1) := by decide +kernel
theorem d211_17 : decode method_36_code 17 = .ok (.ireturn, 1) := by decide +kernel
theorem d211_18 : decode method_36_code 18 = .ok (.iconst 0, 1) := by decide +kernel
theorem d211_19 : decode method_36_code 19 = .ok (.ireturn, 1) := by decide +kernel
set_option maxRecDepth 100000 in
theorem q212 : xMc 212 = method_37_code := rfl
theorem m212 : xMl 212 = 4 ∧ xMret 212 = (some FieldType.int) := by decide +kernel
theorem e212 {X : xX} {d : Nat} {w : xH} {Q : xO → xH → Prop} (x0 : Nat) (x1 : Int32) (x2 : Nat) : Cw X d 212 [.ref x0, .int x1, .ref x2] w Q = Wx X d 212 0 [some (.ref x0), some (.int x1), some (.ref x2), none] [] w Q := by
  unfold Cw
  rw [m212.1]
  rfl
theorem d212_0 : decode method_37_code 0 = .ok (.aload_n 2, 1) := by decide +kernel
theorem d212_1 : decode method_37_code 1 = .ok (.iconst 0, 1) := by decide +kernel
theorem d212_2 : decode method_37_code 2 = .ok (.aload_n 0, 1) := by decide +kernel
theorem d212_3 : decode method_37_code 3 = .ok (.iload_n 1, 1) := by decide +kernel
theorem d212_4 : decode method_37_code 4 = .ok (.invokevirtual 121, 3) := by decide +kernel
theorem k212_121_10 : xCa (xMo 212) 121 10 = some (1, 56, 1) := by decide +kernel
theorem n212_121 : xcn (xMo 212) 121 = some 1 := by decide +kernel
theorem d212_7 : decode method_37_code 7 = .ok (.lastore, 1) := by decide +kernel
theorem d212_8 : decode method_37_code 8 = .ok (.goto 6, 3) := by decide +kernel
theorem d212_11 : decode method_37_code 11 = .ok (.astore_n 3, 1) := by decide +kernel
theorem d212_12 : decode method_37_code 12 = .ok (.iconst 1, 1) := by decide +kernel
theorem d212_13 : decode method_37_code 13 = .ok (.ireturn, 1) := by decide +kernel
theorem d212_14 : decode method_37_code 14 = .ok (.iconst 0, 1) := by decide +kernel
theorem d212_15 : decode method_37_code 15 = .ok (.ireturn, 1) := by decide +kernel
set_option maxRecDepth 100000 in
theorem q213 : xMc 213 = method_38_code := rfl
theorem m213 : xMl 213 = 4 ∧ xMret 213 = (some FieldType.int) := by decide +kernel
theorem e213 {X : xX} {d : Nat} {w : xH} {Q : xO → xH → Prop} (x0 : Nat) (x1 : Int32) (x2 : Nat) : Cw X d 213 [.ref x0, .int x1, .ref x2] w Q = Wx X d 213 0 [some (.ref x0), some (.int x1), some (.ref x2), none] [] w Q := by
  unfold Cw
  rw [m213.1]
  rfl
theorem d213_0 : decode method_38_code 0 = .ok (.aload_n 2, 1) := by decide +kernel
theorem d213_1 : decode method_38_code 1 = .ok (.iconst 0, 1) := by decide +kernel
theorem d213_2 : decode method_38_code 2 = .ok (.aload_n 0, 1) := by decide +kernel
theorem d213_3 : decode method_38_code 3 = .ok (.iload_n 1, 1) := by decide +kernel
theorem d213_4 : decode method_38_code 4 = .ok (.invokevirtual 125, 3) := by decide +kernel
theorem k213_125_10 : xCa (xMo 213) 125 10 = some (1, 57, 1) := by decide +kernel
theorem n213_125 : xcn (xMo 213) 125 = some 1 := by decide +kernel
theorem d213_7 : decode method_38_code 7 = .ok (.lastore, 1) := by decide +kernel
theorem d213_8 : decode method_38_code 8 = .ok (.goto 6, 3) := by decide +kernel
theorem d213_11 : decode method_38_code 11 = .ok (.astore_n 3, 1) := by decide +kernel
theorem d213_12 : decode method_38_code 12 = .ok (.iconst 1, 1) := by decide +kernel
theorem d213_13 : decode method_38_code 13 = .ok (.ireturn, 1) := by decide +kernel
theorem d213_14 : decode method_38_code 14 = .ok (.iconst 0, 1) := by decide +kernel
theorem d213_15 : decode method_38_code 15 = .ok (.ireturn, 1) := by decide +kernel
set_option maxRecDepth 100000 in
theorem q214 : xMc 214 = method_39_code := rfl
theorem m214 : xMl 214 = 6 ∧ xMret 214 = (some FieldType.int) := by decide +kernel
theorem e214 {X : xX} {d : Nat} {w : xH} {Q : xO → xH → Prop} (x0 : Nat) (x1 : Int32) (x2 : Int32) (x3 : Int32) (x4 : Nat) : Cw X d 214 [.ref x0, .int x1, .int x2, .int x3, .ref x4] w Q = Wx X d 214 0 [some (.ref x0), some (.int x1), some (.int x2), some (.int x3), some (.ref x4), none] [] w Q := by
  unfold Cw
  rw [m214.1]
  rfl
theorem d214_0 : decode method_39_code 0 = .ok (.aload 4, 2) := by decide +kernel
theorem d214_2 : decode method_39_code 2 = .ok (.iconst 0, 1) := by decide +kernel
theorem d214_3 : decode method_39_code 3 = .ok (.aload_n 0, 1) := by decide +kernel
theorem d214_4 : decode method_39_code 4 = .ok (.iload_n 1, 1) := by decide +kernel
theorem d214_5 : decode method_39_code 5 = .ok (.iload_n 2, 1) := by decide +kernel
theorem d214_6 : decode method_39_code 6 = .ok (.iload_n 3, 1) := by decide +kernel
theorem d214_7 : decode method_39_code 7 = .ok (.invokevirtual 128, 3) := by decide +kernel
theorem k214_128_10 : xCa (xMo 214) 128 10 = some (1, 58, 3) := by decide +kernel
theorem n214_128 : xcn (xMo 214) 128 = some 3 := by decide +kernel
theorem d214_10 : decode method_39_code 10 = .ok (.i2l, 1) := by decide +kernel
theorem d214_11 : decode method_39_code 11 = .ok (.lastore, 1) := by decide +kernel
theorem d214_12 : decode method_39_code 12 = .ok (.goto 11, 3) := by decide +kernel
theorem d214_15 : decode method_39_code 15 = .ok (.astore 5, 2) := by decide +kernel
theorem d214_17 : decode method_39_code 17 = .ok (.iconst 1, 1) := by decide +kernel
theorem d214_18 : decode method_39_code 18 = .ok (.ireturn, 1) := by decide +kernel
theorem d214_19 : decode method_39_code 19 = .ok (.astore 5, 2) := by decide +kernel
theorem d214_21 : decode method_39_code 21 = .ok (.iconst 2, 1) := by decide +kernel
theorem d214_22 : decode method_39_code 22 = .ok (.ireturn, 1) := by decide +kernel
theorem d214_23 : decode method_39_code 23 = .ok (.iconst 0, 1) := by decide +kernel
theorem d214_24 : decode method_39_code 24 = .ok (.ireturn, 1) := by decide +kernel
set_option maxRecDepth 100000 in
theorem q215 : xMc 215 = method_40_code := rfl
theorem m215 : xMl 215 = 6 ∧ xMret 215 = (some FieldType.int) := by decide +kernel
theorem e215 {X : xX} {d : Nat} {w : xH} {Q : xO → xH → Prop} (x0 : Nat) (x1 : Int32) (x2 : Int32) (x3 : Int32) (x4 : Nat) : Cw X d 215 [.ref x0, .int x1, .int x2, .int x3, .ref x4] w Q = Wx X d 215 0 [some (.ref x0), some (.int x1), some (.int x2), some (.int x3), some (.ref x4), none] [] w Q := by
  unfold Cw
  rw [m215.1]
  rfl
theorem d215_0 : decode method_40_code 0 = .ok (.aload 4, 2) := by decide +kernel
theorem d215_2 : decode method_40_code 2 = .ok (.iconst 0, 1) := by decide +kernel
theorem d215_3 : decode method_40_code 3 = .ok (.aload_n 0, 1) := by decide +kernel
theorem d215_4 : decode method_40_code 4 = .ok (.iload_n 1, 1) := by decide +kernel
theorem d215_5 : decode method_40_code 5 = .ok (.iload_n 2, 1) := by decide +kernel
theorem d215_6 : decode method_40_code 6 = .ok (.iload_n 3, 1) := by decide +kernel
theorem d215_7 : decode method_40_code 7 = .ok (.invokevirtual 131, 3) := by decide +kernel
theorem k215_131_10 : xCa (xMo 215) 131 10 = some (1, 60, 3) := by decide +kernel
theorem n215_131 : xcn (xMo 215) 131 = some 3 := by decide +kernel
theorem d215_10 : decode method_40_code 10 = .ok (.i2l, 1) := by decide +kernel
theorem d215_11 : decode method_40_code 11 = .ok (.lastore, 1) := by decide +kernel
theorem d215_12 : decode method_40_code 12 = .ok (.goto 7, 3) := by decide +kernel
theorem d215_15 : decode method_40_code 15 = .ok (.astore 5, 2) := by decide +kernel
theorem d215_17 : decode method_40_code 17 = .ok (.iconst 1, 1) := by decide +kernel
theorem d215_18 : decode method_40_code 18 = .ok (.ireturn, 1) := by decide +kernel
theorem d215_19 : decode method_40_code 19 = .ok (.iconst 0, 1) := by decide +kernel
theorem d215_20 : decode method_40_code 20 = .ok (.ireturn, 1) := by decide +kernel
set_option maxRecDepth 100000 in
theorem q216 : xMc 216 = method_41_code := rfl
theorem m216 : xMl 216 = 4 ∧ xMret 216 = (some FieldType.int) := by decide +kernel
theorem e216 {X : xX} {d : Nat} {w : xH} {Q : xO → xH → Prop} (x0 : Nat) (x1 : Int32) (x2 : Nat) : Cw X d 216 [.ref x0, .int x1, .ref x2] w Q = Wx X d 216 0 [some (.ref x0), some (.int x1), some (.ref x2), none] [] w Q := by
  unfold Cw
  rw [m216.1]
  rfl
theorem d216_0 : decode method_41_code 0 = .ok (.aload_n 2, 1) := by decide +kernel
theorem d216_1 : decode method_41_code 1 = .ok (.iconst 0, 1) := by decide +kernel
theorem d216_2 : decode method_41_code 2 = .ok (.aload_n 0, 1) := by decide +kernel
theorem d216_3 : decode method_41_code 3 = .ok (.iload_n 1, 1) := by decide +kernel
theorem d216_4 : decode method_41_code 4 = .ok (.invokevirtual 134, 3) := by decide +kernel
theorem k216_134_10 : xCa (xMo 216) 134 10 = some (1, 61, 1) := by decide +kernel
theorem n216_134 : xcn (xMo 216) 134 = some 1 := by decide +kernel
theorem d216_7 : decode method_41_code 7 = .ok (.i2l, 1) := by decide +kernel
theorem d216_8 : decode method_41_code 8 = .ok (.lastore, 1) := by decide +kernel
theorem d216_9 : decode method_41_code 9 = .ok (.goto 6, 3) := by decide +kernel
theorem d216_12 : decode method_41_code 12 = .ok (.astore_n 3, 1) := by decide +kernel
theorem d216_13 : decode method_41_code 13 = .ok (.iconst 1, 1) := by decide +kernel
theorem d216_14 : decode method_41_code 14 = .ok (.ireturn, 1) := by decide +kernel
theorem d216_15 : decode method_41_code 15 = .ok (.iconst 0, 1) := by decide +kernel
theorem d216_16 : decode method_41_code 16 = .ok (.ireturn, 1) := by decide +kernel
end
