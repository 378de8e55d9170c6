/-! numbers once more -/
section
theorem xcb_eq {x : Int} (h : 0 ≤ x) (h2 : x < 65536) : xcb x := by
  unfold xcb iI
  apply Int32.toBitVec_inj.1
  show (((BitVec.ofInt 32 x).setWidth 16).setWidth 32) = BitVec.ofInt 32 x
  apply BitVec.eq_of_toNat_eq
  rw [BitVec.toNat_setWidth, BitVec.toNat_setWidth, BitVec.toNat_ofInt]
  omega
theorem xnc_pos {x : Int} (h : 0 ≤ x) (h2 : x < 2147483648) : xnc x = x % 65536 := by
  obtain ⟨n, rfl⟩ : ∃ n : Nat, x = n := ⟨x.toNat, by omega⟩
  unfold xnc iI
  have e : ((Int32.ofInt (n : Int)).toUInt32 % 65536).toInt32 = Int32.ofInt ((n : Int) % 65536) := by
    apply Int32.toBitVec_inj.1
    show (BitVec.ofInt 32 (n : Int)) % (65536#32) = BitVec.ofInt 32 ((n : Int) % 65536)
    apply BitVec.eq_of_toNat_eq
    rw [BitVec.toNat_umod, BitVec.toNat_ofInt, BitVec.toNat_ofInt, show BitVec.toNat 65536#32 = 65536 from rfl]
    omega
  rw [e]
  exact ti_eq (by omega) (by omega)
theorem ti01 : ti 1 = 1 ∧ ti 0 = 0 ∧ ti (-1) = -1 := by decide
theorem lcm_lt (x y : Int) : (ti (lcm x y) < 0) = (tl x < tl y) := by
  unfold lcm
  obtain ⟨a, b, c⟩ := ti01
  apply propext
  split
  · rw [a]; omega
  · split
    · rw [b]; omega
    · rw [c]; omega
theorem lcm_gt (x y : Int) : (0 < ti (lcm x y)) = (tl y < tl x) := by
  unfold lcm
  obtain ⟨a, b, c⟩ := ti01
  apply propext
  split
  · rw [a]; omega
  · split
    · rw [b]; omega
    · rw [c]; omega
theorem lcm_ge (x y : Int) : (0 ≤ ti (lcm x y)) = (tl y ≤ tl x) := by
  unfold lcm
  obtain ⟨a, b, c⟩ := ti01
  apply propext
  split
  · rw [a]; omega
  · split
    · rw [b]; omega
    · rw [c]; omega
theorem lcm_le (x y : Int) : (ti (lcm x y) ≤ 0) = (tl x ≤ tl y) := by
  unfold lcm
  obtain ⟨a, b, c⟩ := ti01
  apply propext
  split
  · rw [a]; omega
  · split
    · rw [b]; omega
    · rw [c]; omega
theorem lcm_eq (x y : Int) : (ti (lcm x y) = 0) = (tl x = tl y) := by
  unfold lcm
  obtain ⟨a, b, c⟩ := ti01
  apply propext
  split
  · rw [a]; omega
  · split
    · rw [b]; omega
    · rw [c]; omega
theorem tl_of (x : Int64) : tl x.toInt = x.toInt := by unfold tl; rw [lI_of]
theorem lxo_neg (x y : Int) : (0 ≤ tl (lxo x y)) ↔ ((0 ≤ tl x) ↔ (0 ≤ tl y)) := by
  have e : tl (lxo x y) = ((lI x).toBitVec ^^^ (lI y).toBitVec).toInt := by
    unfold lxo; rw [tl_of]; rfl
  have m : ∀ b : BitVec 64, (0 ≤ b.toInt) ↔ b.msb = false := fun b => by
    have := @BitVec.msb_eq_toInt 64 b
    rw [this]; simp
  rw [e, m, BitVec.msb_xor, show tl x = (lI x).toBitVec.toInt from rfl, show tl y = (lI y).toBitVec.toInt from rfl, m, m]
  cases (lI x).toBitVec.msb <;> cases (lI y).toBitVec.msb <;> decide
theorem ldv_eq {x y : Int} (hx : -1000000000 ≤ x) (hx2 : x ≤ 1000000000) (hy : -1000000000 ≤ y) (hy2 : y ≤ 1000000000) : ldv x y = x.tdiv y := by
  unfold ldv
  rw [Int64.toInt_div, show (lI x).toInt = tl x from rfl, show (lI y).toInt = tl y from rfl, tl_eq (by omega) (by omega), tl_eq (by omega) (by omega)]
  have := Int.natAbs_tdiv_le_natAbs x y
  rw [Int.bmod_eq_of_le (by omega) (by omega)]
theorem tdiv_fdiv {x y : Int} (hy : ¬ y = 0) : x.fdiv y = if (0 ≤ x ↔ 0 ≤ y) ∨ x.tdiv y * y = x then x.tdiv y else x.tdiv y - 1 := by
  have h := Int.fdiv_eq_tdiv (a := x) (b := y)
  by_cases hd : y ∣ x
  · rw [if_pos hd] at h
    rw [if_pos (.inr (Int.tdiv_mul_cancel hd))]
    omega
  · rw [if_neg hd] at h
    have hn : ¬ x.tdiv y * y = x := fun e => hd ⟨x.tdiv y, by rw [Int.mul_comm]; exact e.symm⟩
    by_cases h1 : 0 ≤ x
    · rw [if_pos h1] at h
      by_cases h2 : 0 ≤ y
      · rw [if_pos h2] at h; rw [if_pos (.inl ⟨fun _ => h2, fun _ => h1⟩)]; omega
      · rw [if_neg h2] at h; rw [if_neg (by rintro (e | e); exact h2 (e.mp h1); exact hn e)]; omega
    · rw [if_neg h1] at h
      by_cases h2 : 0 ≤ y
      · rw [if_pos h2, Int.sign_eq_one_of_pos (by omega)] at h
        rw [if_neg (by rintro (e | e); exact h1 (e.mpr h2); exact hn e)]; omega
      · rw [if_neg h2, Int.sign_eq_neg_one_of_neg (by omega)] at h
        rw [if_pos (.inl ⟨fun a => absurd a h1, fun a => absurd a h2⟩)]; omega
end
/-! Calculation: the small parts -/
section
set_option maxRecDepth 100000 in
theorem q411 : xMc 411 = prog_21_method_61_code := rfl
theorem m411 : xMl 411 = 2 ∧ xMret 411 = (some FieldType.long) ∧ xMh 411 = [] := by decide +kernel
theorem e411 {X : xX} {d : Nat} {w : xH} {Q : xO → xH → Prop} (x0 : Int64) : Cw X d 411 [.long x0] w Q = Wx X d 411 0 [some (.long x0), none] [] w Q := by
  unfold Cw
  rw [m411.1]
  rfl
theorem d411_0 : decode prog_21_method_61_code 0 = .ok (.lload_n 0, 1) := by decide +kernel
theorem d411_1 : decode prog_21_method_61_code 1 = .ok (.lconst 0, 1) := by decide +kernel
theorem d411_2 : decode prog_21_method_61_code 2 = .ok (.lcmp, 1) := by decide +kernel
theorem d411_3 : decode prog_21_method_61_code 3 = .ok (.ifCond .ge 8, 3) := by decide +kernel
theorem d411_6 : decode prog_21_method_61_code 6 = .ok (.lload_n 0, 1) := by decide +kernel
theorem d411_7 : decode prog_21_method_61_code 7 = .ok (.lneg, 1) := by decide +kernel
theorem d411_8 : decode prog_21_method_61_code 8 = .ok (.goto 4, 3) := by decide +kernel
theorem d411_11 : decode prog_21_method_61_code 11 = .ok (.lload_n 0, 1) := by decide +kernel
theorem d411_12 : decode prog_21_method_61_code 12 = .ok (.lreturn, 1) := by decide +kernel
set_option maxRecDepth 100000 in
theorem q412 : xMc 412 = prog_21_method_49_code := rfl
theorem m412 : xMl 412 = 6 ∧ xMret 412 = (some FieldType.long) ∧ xMh 412 = [] := by decide +kernel
theorem e412 {X : xX} {d : Nat} {w : xH} {Q : xO → xH → Prop} (x0 : Int64) (x1 : Int64) : Cw X d 412 [.long x0, .long x1] w Q = Wx X d 412 0 [some (.long x0), none, some (.long x1), none, none, none] [] w Q := by
  unfold Cw
  rw [m412.1]
  rfl
theorem d412_0 : decode prog_21_method_49_code 0 = .ok (.lload_n 0, 1) := by decide +kernel
theorem d412_1 : decode prog_21_method_49_code 1 = .ok (.lload_n 2, 1) := by decide +kernel
theorem d412_2 : decode prog_21_method_49_code 2 = .ok (.ldiv, 1) := by decide +kernel
theorem d412_3 : decode prog_21_method_49_code 3 = .ok (.lstore 4, 2) := by decide +kernel
theorem d412_5 : decode prog_21_method_49_code 5 = .ok (.lload_n 0, 1) := by decide +kernel
theorem d412_6 : decode prog_21_method_49_code 6 = .ok (.lload_n 2, 1) := by decide +kernel
theorem d412_7 : decode prog_21_method_49_code 7 = .ok (.lxor, 1) := by decide +kernel
theorem d412_8 : decode prog_21_method_49_code 8 = .ok (.lconst 0, 1) := by decide +kernel
theorem d412_9 : decode prog_21_method_49_code 9 = .ok (.lcmp, 1) := by decide +kernel
theorem d412_10 : decode prog_21_method_49_code 10 = .ok (.ifCond .ge 17, 3) := by decide +kernel
theorem d412_13 : decode prog_21_method_49_code 13 = .ok (.lload 4, 2) := by decide +kernel
theorem d412_15 : decode prog_21_method_49_code 15 = .ok (.lload_n 2, 1) := by decide +kernel
theorem d412_16 : decode prog_21_method_49_code 16 = .ok (.lmul, 1) := by decide +kernel
theorem d412_17 : decode prog_21_method_49_code 17 = .ok (.lload_n 0, 1) := by decide +kernel
theorem d412_18 : decode prog_21_method_49_code 18 = .ok (.lcmp, 1) := by decide +kernel
theorem d412_19 : decode prog_21_method_49_code 19 = .ok (.ifCond .eq 8, 3) := by decide +kernel
theorem d412_22 : decode prog_21_method_49_code 22 = .ok (.lload 4, 2) := by decide +kernel
theorem d412_24 : decode prog_21_method_49_code 24 = .ok (.lconst 1, 1) := by decide +kernel
theorem d412_25 : decode prog_21_method_49_code 25 = .ok (.lsub, 1) := by decide +kernel
theorem d412_26 : decode prog_21_method_49_code 26 = .ok (.lreturn, 1) := by decide +kernel
theorem d412_27 : decode prog_21_method_49_code 27 = .ok (.lload 4, 2) := by decide +kernel
theorem d412_29 : decode prog_21_method_49_code 29 = .ok (.lreturn, 1) := by decide +kernel

variable {X : xX} {d : Nat} {w : xH} {S : xLm} {g : xGm} {Q : xO → xH → Prop}
theorem tl_0 : tl 0 = 0 := by decide
theorem tl_1 : tl 1 = 1 := by decide
theorem c_absL (z : Int) : Cw X d 411 [.long (lI z)] w Q = Q (.inl (some (.long (lI (if tl z < 0 then -z else z))))) w := by
  rw [e411]
  simp (config := { decide := true }) only [w_lload_n0 (pc' := 1) q411 d411_0 rfl, w_lconst0 (pc' := 2) q411 d411_1 rfl, w_lcmp (pc' := 3) q411 d411_2 rfl, w_if_ge (tg := 11) (pc' := 6) q411 d411_3 (by decide) rfl, w_lload_n0 (pc' := 7) q411 d411_6 rfl, w_lneg (pc' := 8) q411 d411_7 rfl, w_goto (tg := 12) q411 d411_8 (by decide), w_lload_n0 (pc' := 12) q411 d411_11 rfl, w_lreturn q411 d411_12 m411.2.1, gs_off, gs_off0, gs_0off, gs_2, xN_0, xN_2, xN_3, xN_6, xN_7, xN_8, xN_9, xN_10, xN_11, xN_12, xN_13, xN_14, xN_15, xN_16, xN_17, xN_18, xN_19, xN_20, xN_21, xN_22, xN_23, xN_24, xN_25, xN_26, xN_27, xN_28, xN_29, xN_30, xN_31, xN_32, xN_33, xN_34, xN_35, xN_36, xN_37, xN_38, xN_39, xN_40, xN_41, xN_42, xN_43, xN_44, xN_45, xN_46, xN_47, xN_48, xN_49, xN_50, xN_51, xN_52, xN_53, xN_54, xN_55, ti_0, ti_1, ti_2, ti_3, ti_4, ti_5, ti_6, ti_7, ti_8, ti_9, ti_10, ti_16, ti_19, ti_20, ti_29, ti_30, ti_31, ti_32, ti_35, ti_36, ti_38, ti_39, ti_40, ti_41, ti_42, ti_43, ti_44, ti_45, ti_46, ti_47, ti_48, ti_49, ti_50, ti_51, ti_52, ti_53, ti_54, ti_55, ti_56, ti_57, ti_58, ti_59, ti_60, ti_61, ti_62, ti_63, ti_64, ti_65, ti_74, ti_77, ti_126, ti_200, ti_201, ti_202, ti_203, ti_204, ti_205, ti_210, ti_255, ti_256, ti_400, ti_512, ti_600, ti_601, ti_602, ti_1000, ti_1023, ti_1024, ti_2000, ti_10000, ti_12602, ti_999999, ti_m999999, ti_m1, ti_2000000, ti_3000000, xN_1, xN_4, xN_5, xN_60, xN_61, xN_64, xN_200, xN_800, xN_12000, xN_12602, eq_self, and_self, and_true, true_and, if_true, if_false, decide_true, Nat.reduceLeDiff, xc2_int, xc2_ref, xc2_ra, xc2_null, xc2_long, xc2_none, xisaT_ref, xisaT_ra, xisaT_null, xc1T_int, xc1T_ref, xc1T_ra, xc1T_null, xsum_nil, xsum_int, xsum_ref, xsum_ra, xsum_long, xsum_double, xsum_null, xfl_nil, xfl_int, xfl_ref, xfl_ra, xfl_null, xfl_long, xfl_double, List.length_cons, List.length_nil, lcm_ge, tl_0, xfk, xfv, xak, xan, xcls, xsv', List.getElem?_cons_zero, List.getElem?_cons_succ, List.getD_cons_zero, List.getD_cons_succ, Option.getD_some, Option.isSome_some, if_true, if_pos, xcont, Option.toList_none, Option.toList_some, List.nil_append, List.cons_append]
  by_cases h : 0 ≤ tl z
  · rw [if_pos h, if_neg (by omega)]
  · rw [if_neg h, if_pos (by omega)]
theorem mul_rng {x y : Int} (hx : -1000000000 ≤ x) (hx2 : x ≤ 1000000000) (hy : -1000000000 ≤ y) (hy2 : y ≤ 1000000000) : -1000000000000000000 ≤ x * y ∧ x * y ≤ 1000000000000000000 := by
  have h : (x * y).natAbs ≤ 1000000000 * 1000000000 := by rw [Int.natAbs_mul]; exact Nat.mul_le_mul (by omega) (by omega)
  omega
theorem c_floorDiv {x y : Int} (hx : -999999999 ≤ x) (hx2 : x ≤ 999999999) (hy : -999999999 ≤ y) (hy2 : y ≤ 999999999) (hy0 : ¬ y = 0) : Cw X d 412 [.long (lI x), .long (lI y)] w Q = Q (.inl (some (.long (lI (x.fdiv y))))) w := by
  have tx : tl x = x := tl_eq (by omega) (by omega)
  have ty : tl y = y := tl_eq (by omega) (by omega)
  have hq := Int.natAbs_tdiv_le_natAbs x y
  obtain ⟨q, eq⟩ : ∃ q, x.tdiv y = q := ⟨_, rfl⟩
  have eld : ldv x y = q := (ldv_eq (by omega) (by omega) (by omega) (by omega)).trans eq
  rw [eq] at hq
  have hm := mul_rng (x := q) (y := y) (by omega) (by omega) (by omega) (by omega)
  have tm : tl (q * y) = q * y := tl_eq (by omega) (by omega)
  have hf := tdiv_fdiv (x := x) hy0
  rw [eq] at hf
  have hs := lxo_neg x y
  rw [tx, ty] at hs
  rw [e412, hf]
  simp (config := { decide := true }) only [w_lload_n0 (pc' := 1) q412 d412_0 rfl, w_lload_n2 (pc' := 2) q412 d412_1 rfl, w_ldiv (pc' := 3) q412 d412_2 rfl, w_lstore4 (pc' := 5) q412 d412_3 rfl, w_lload_n0 (pc' := 6) q412 d412_5 rfl, w_lload_n2 (pc' := 7) q412 d412_6 rfl, w_lxor (pc' := 8) q412 d412_7 rfl, w_lconst0 (pc' := 9) q412 d412_8 rfl, w_lcmp (pc' := 10) q412 d412_9 rfl, w_if_ge (tg := 27) (pc' := 13) q412 d412_10 (by decide) rfl, w_lload4 (pc' := 15) q412 d412_13 rfl, w_lload_n2 (pc' := 16) q412 d412_15 rfl, w_lmul (pc' := 17) q412 d412_16 rfl, w_lload_n0 (pc' := 18) q412 d412_17 rfl, w_lcmp (pc' := 19) q412 d412_18 rfl, w_if_eq (tg := 27) (pc' := 22) q412 d412_19 (by decide) rfl, w_lload4 (pc' := 24) q412 d412_22 rfl, w_lconst1 (pc' := 25) q412 d412_24 rfl, w_lsub (pc' := 26) q412 d412_25 rfl, w_lreturn q412 d412_26 m412.2.1, w_lload4 (pc' := 29) q412 d412_27 rfl, w_lreturn q412 d412_29 m412.2.1, gs_off, gs_off0, gs_0off, gs_2, xN_0, xN_2, xN_3, xN_6, xN_7, xN_8, xN_9, xN_10, xN_11, xN_12, xN_13, xN_14, xN_15, xN_16, xN_17, xN_18, xN_19, xN_20, xN_21, xN_22, xN_23, xN_24, xN_25, xN_26, xN_27, xN_28, xN_29, xN_30, xN_31, xN_32, xN_33, xN_34, xN_35, xN_36, xN_37, xN_38, xN_39, xN_40, xN_41, xN_42, xN_43, xN_44, xN_45, xN_46, xN_47, xN_48, xN_49, xN_50, xN_51, xN_52, xN_53, xN_54, xN_55, ti_0, ti_1, ti_2, ti_3, ti_4, ti_5, ti_6, ti_7, ti_8, ti_9, ti_10, ti_16, ti_19, ti_20, ti_29, ti_30, ti_31, ti_32, ti_35, ti_36, ti_38, ti_39, ti_40, ti_41, ti_42, ti_43, ti_44, ti_45, ti_46, ti_47, ti_48, ti_49, ti_50, ti_51, ti_52, ti_53, ti_54, ti_55, ti_56, ti_57, ti_58, ti_59, ti_60, ti_61, ti_62, ti_63, ti_64, ti_65, ti_74, ti_77, ti_126, ti_200, ti_201, ti_202, ti_203, ti_204, ti_205, ti_210, ti_255, ti_256, ti_400, ti_512, ti_600, ti_601, ti_602, ti_1000, ti_1023, ti_1024, ti_2000, ti_10000, ti_12602, ti_999999, ti_m999999, ti_m1, ti_2000000, ti_3000000, xN_1, xN_4, xN_5, xN_60, xN_61, xN_64, xN_200, xN_800, xN_12000, xN_12602, eq_self, and_self, and_true, true_and, if_true, if_false, decide_true, Nat.reduceLeDiff, xc2_int, xc2_ref, xc2_ra, xc2_null, xc2_long, xc2_none, xisaT_ref, xisaT_ra, xisaT_null, xc1T_int, xc1T_ref, xc1T_ra, xc1T_null, xsum_nil, xsum_int, xsum_ref, xsum_ra, xsum_long, xsum_double, xsum_null, xfl_nil, xfl_int, xfl_ref, xfl_ra, xfl_null, xfl_long, xfl_double, List.length_cons, List.length_nil, lcm_ge, lcm_eq, tl_0, tx, ty, eld, tm, hy0, not_false_eq_true, xfk, xfv, xak, xan, xcls, xsv', List.getElem?_cons_zero, List.getElem?_cons_succ, List.getD_cons_zero, List.getD_cons_succ, Option.getD_some, Option.isSome_some, if_true, if_pos, xcont, Option.toList_none, Option.toList_some, List.nil_append, List.cons_append]
  by_cases h1 : 0 ≤ tl (lxo x y)
  · rw [if_pos h1, if_pos (.inl (hs.mp h1))]
  · rw [if_neg h1]
    by_cases h2 : q * y = x
    · rw [if_pos h2, if_pos (.inr h2)]
    · rw [if_neg h2, if_neg (by rintro (e | e); exact h1 (hs.mpr e); exact h2 e)]
/-- a Calculation lies at k -/
def ClS (S : xLm) (k : Nat) : Prop := S.1 k = .inr (2, [some (.ref (k + 1)), some (.ref (k + 7)), none, none, none]) ∧ StS S (k + 1) ∧ LkS S (k + 7)
def gE (g : xGm) (k : Nat) (a e : Int) : xGm := gs (gs g k 2 a) k 4 e
theorem gE_a (k : Nat) (a e : Int) : gE g k a e k 2 = a := by unfold gE; rw [gs_at, if_neg (by decide), gs_at, if_pos rfl]
theorem gE_e (k : Nat) (a e : Int) : gE g k a e k 4 = e := by unfold gE; rw [gs_at, if_pos rfl]
theorem gE_n (k : Nat) (a e : Int) : gE g k a e k 3 = g k 3 := by unfold gE; rw [gs_at, if_neg (by decide), gs_at, if_neg (by decide)]
theorem gE_row {k h : Nat} (a e : Int) (hh : ¬ h = k) : gE g k a e h = g h := by unfold gE; rw [gs_row _ _ _ hh, gs_row _ _ _ hh]
theorem gE_off (k j : Nat) (a e : Int) : gE g k a e (k + 1 + j) = g (k + 1 + j) := gE_row a e (by omega)
theorem gE_sa (k : Nat) (a e a' : Int) : gs (gE g k a e) k 2 a' = gE g k a' e := by
  unfold gE
  funext h i
  unfold gs
  by_cases h1 : h = k
  · subst h1
    by_cases h2 : i = 2
    · subst h2; simp
    · simp [h2]
  · simp [h1]
theorem gE_se (k : Nat) (a e e' : Int) : gs (gE g k a e) k 4 e' = gE g k a e' := by
  unfold gE
  funext h i
  unfold gs
  by_cases h1 : h = k
  · subst h1
    by_cases h2 : i = 4
    · subst h2; simp
    · simp [h2]
  · simp [h1]
/-- the token at a -/
def tkv (g : xGm) (k : Nat) (a : Int) : Int := if a < g k 3 then g (k + 1 + 5) a else 0
def CvI (g : xGm) (k : Nat) : Prop := StI g (k + 1) ∧ 0 ≤ g k 3 ∧ g k 3 ≤ 12000
theorem tkv_rng {k : Nat} (h : CvI g k) (a : Int) : 0 ≤ tkv g k a ∧ tkv g k a < 16777216 := by
  unfold tkv; split
  · have := h.1.2.2.2.2 a; omega
  · omega
def sgn (t : Int) : Int := if t % 8 = 5 then t / 8 % 65536 else 0
theorem sgn_rng (t : Int) : 0 ≤ sgn t ∧ sgn t < 65536 := by unfold sgn; split <;> omega
theorem c_tok {k : Nat} {a e : Int} (hS : ClS S k) (hC : CvI g k) (ha : 0 ≤ a) (ha2 : a < 100000) : Cw X d 71 [.ref k] (hp S (gE g k a e)) Q = Q (.inl (some (.int (iI (tkv g k a))))) (hp S (gE g k a e)) := by
  obtain ⟨k0, ⟨b0, b1, b2, b3, b4, b5⟩, -⟩ := hS
  have ta : ti a = a := ti_eq (by omega) (by omega)
  have ha' : ¬ a < 0 := by omega
  obtain ⟨-, n1, n2⟩ := hC
  obtain ⟨en, hn⟩ : ∃ en, g k 3 = en := ⟨_, rfl⟩
  rw [hn] at n1 n2
  have tn : ti en = en := ti_eq (by omega) (by omega)
  have t12 : ti 12000 = 12000 := by decide
  unfold tkv
  rw [e71, hn]
  by_cases h : a < en
  · have h1 : ¬ en ≤ a := by omega
    have h2 : ¬ 12000 ≤ a := by omega
    have h3 : a < 12000 := by omega
    simp (config := { decide := true }) only [w_aload_n0 (pc' := 1) q71 d71_0 rfl, w_getI (pc' := 4) q71 d71_1 rfl f71_74, w_if_lt (tg := 48) (pc' := 7) q71 d71_4 (by decide) rfl, w_aload_n0 (pc' := 8) q71 d71_7 rfl, w_getI (pc' := 11) q71 d71_8 rfl f71_74, w_aload_n0 (pc' := 12) q71 d71_11 rfl, w_getI (pc' := 15) q71 d71_12 rfl f71_80, w_icmp_ge (tg := 48) (pc' := 18) q71 d71_15 (by decide) rfl, w_aload_n0 (pc' := 19) q71 d71_18 rfl, w_getI (pc' := 22) q71 d71_19 rfl f71_74, w_aload_n0 (pc' := 23) q71 d71_22 rfl, w_getV (pc' := 26) q71 d71_23 rfl f71_14, w_getV (pc' := 29) q71 d71_26 rfl f71_198, w_alen (k := 0) (pc' := 30) q71 d71_29 rfl, w_icmp_ge (tg := 48) (pc' := 33) q71 d71_30 (by decide) rfl, w_aload_n0 (pc' := 34) q71 d71_33 rfl, w_getV (pc' := 37) q71 d71_34 rfl f71_14, w_getV (pc' := 40) q71 d71_37 rfl f71_198, w_aload_n0 (pc' := 41) q71 d71_40 rfl, w_getI (pc' := 44) q71 d71_41 rfl f71_74, w_iaload (pc' := 45) q71 d71_44 rfl, w_goto (tg := 49) q71 d71_45 (by decide), w_iconst (pc' := 49) q71 d71_48 rfl, w_ireturn q71 d71_49 m71.2.1, gs_off, gs_off0, gs_0off, gs_2, xN_0, xN_2, xN_3, xN_6, xN_7, xN_8, xN_9, xN_10, xN_11, xN_12, xN_13, xN_14, xN_15, xN_16, xN_17, xN_18, xN_19, xN_20, xN_21, xN_22, xN_23, xN_24, xN_25, xN_26, xN_27, xN_28, xN_29, xN_30, xN_31, xN_32, xN_33, xN_34, xN_35, xN_36, xN_37, xN_38, xN_39, xN_40, xN_41, xN_42, xN_43, xN_44, xN_45, xN_46, xN_47, xN_48, xN_49, xN_50, xN_51, xN_52, xN_53, xN_54, xN_55, ti_0, ti_1, ti_2, ti_3, ti_4, ti_5, ti_6, ti_7, ti_8, ti_9, ti_10, ti_16, ti_19, ti_20, ti_29, ti_30, ti_31, ti_32, ti_35, ti_36, ti_38, ti_39, ti_40, ti_41, ti_42, ti_43, ti_44, ti_45, ti_46, ti_47, ti_48, ti_49, ti_50, ti_51, ti_52, ti_53, ti_54, ti_55, ti_56, ti_57, ti_58, ti_59, ti_60, ti_61, ti_62, ti_63, ti_64, ti_65, ti_74, ti_77, ti_126, ti_200, ti_201, ti_202, ti_203, ti_204, ti_205, ti_210, ti_255, ti_256, ti_400, ti_512, ti_600, ti_601, ti_602, ti_1000, ti_1023, ti_1024, ti_2000, ti_10000, ti_12602, ti_999999, ti_m999999, ti_m1, ti_2000000, ti_3000000, xN_1, xN_4, xN_5, xN_60, xN_61, xN_64, xN_200, xN_800, xN_12000, xN_12602, eq_self, and_self, and_true, true_and, if_true, if_false, decide_true, Nat.reduceLeDiff, xc2_int, xc2_ref, xc2_ra, xc2_null, xc2_long, xc2_none, xisaT_ref, xisaT_ra, xisaT_null, xc1T_int, xc1T_ref, xc1T_ra, xc1T_null, xsum_nil, xsum_int, xsum_ref, xsum_ra, xsum_long, xsum_double, xsum_null, xfl_nil, xfl_int, xfl_ref, xfl_ra, xfl_null, xfl_long, xfl_double, List.length_cons, List.length_nil, k0, b0, b5, gE_a, gE_n, gE_off, hn, ta, ha', ha, tn, h, h1, h2, h3, t12, xfk, xfv, xak, xan, xcls, xsv', List.getElem?_cons_zero, List.getElem?_cons_succ, List.getD_cons_zero, List.getD_cons_succ, Option.getD_some, Option.isSome_some, if_true, if_pos, xcont, Option.toList_none, Option.toList_some, List.nil_append, List.cons_append]
  · have h1 : en ≤ a := by omega
    simp (config := { decide := true }) only [w_aload_n0 (pc' := 1) q71 d71_0 rfl, w_getI (pc' := 4) q71 d71_1 rfl f71_74, w_if_lt (tg := 48) (pc' := 7) q71 d71_4 (by decide) rfl, w_aload_n0 (pc' := 8) q71 d71_7 rfl, w_getI (pc' := 11) q71 d71_8 rfl f71_74, w_aload_n0 (pc' := 12) q71 d71_11 rfl, w_getI (pc' := 15) q71 d71_12 rfl f71_80, w_icmp_ge (tg := 48) (pc' := 18) q71 d71_15 (by decide) rfl, w_aload_n0 (pc' := 19) q71 d71_18 rfl, w_getI (pc' := 22) q71 d71_19 rfl f71_74, w_aload_n0 (pc' := 23) q71 d71_22 rfl, w_getV (pc' := 26) q71 d71_23 rfl f71_14, w_getV (pc' := 29) q71 d71_26 rfl f71_198, w_alen (k := 0) (pc' := 30) q71 d71_29 rfl, w_icmp_ge (tg := 48) (pc' := 33) q71 d71_30 (by decide) rfl, w_aload_n0 (pc' := 34) q71 d71_33 rfl, w_getV (pc' := 37) q71 d71_34 rfl f71_14, w_getV (pc' := 40) q71 d71_37 rfl f71_198, w_aload_n0 (pc' := 41) q71 d71_40 rfl, w_getI (pc' := 44) q71 d71_41 rfl f71_74, w_iaload (pc' := 45) q71 d71_44 rfl, w_goto (tg := 49) q71 d71_45 (by decide), w_iconst (pc' := 49) q71 d71_48 rfl, w_ireturn q71 d71_49 m71.2.1, gs_off, gs_off0, gs_0off, gs_2, xN_0, xN_2, xN_3, xN_6, xN_7, xN_8, xN_9, xN_10, xN_11, xN_12, xN_13, xN_14, xN_15, xN_16, xN_17, xN_18, xN_19, xN_20, xN_21, xN_22, xN_23, xN_24, xN_25, xN_26, xN_27, xN_28, xN_29, xN_30, xN_31, xN_32, xN_33, xN_34, xN_35, xN_36, xN_37, xN_38, xN_39, xN_40, xN_41, xN_42, xN_43, xN_44, xN_45, xN_46, xN_47, xN_48, xN_49, xN_50, xN_51, xN_52, xN_53, xN_54, xN_55, ti_0, ti_1, ti_2, ti_3, ti_4, ti_5, ti_6, ti_7, ti_8, ti_9, ti_10, ti_16, ti_19, ti_20, ti_29, ti_30, ti_31, ti_32, ti_35, ti_36, ti_38, ti_39, ti_40, ti_41, ti_42, ti_43, ti_44, ti_45, ti_46, ti_47, ti_48, ti_49, ti_50, ti_51, ti_52, ti_53, ti_54, ti_55, ti_56, ti_57, ti_58, ti_59, ti_60, ti_61, ti_62, ti_63, ti_64, ti_65, ti_74, ti_77, ti_126, ti_200, ti_201, ti_202, ti_203, ti_204, ti_205, ti_210, ti_255, ti_256, ti_400, ti_512, ti_600, ti_601, ti_602, ti_1000, ti_1023, ti_1024, ti_2000, ti_10000, ti_12602, ti_999999, ti_m999999, ti_m1, ti_2000000, ti_3000000, xN_1, xN_4, xN_5, xN_60, xN_61, xN_64, xN_200, xN_800, xN_12000, xN_12602, eq_self, and_self, and_true, true_and, if_true, if_false, decide_true, Nat.reduceLeDiff, xc2_int, xc2_ref, xc2_ra, xc2_null, xc2_long, xc2_none, xisaT_ref, xisaT_ra, xisaT_null, xc1T_int, xc1T_ref, xc1T_ra, xc1T_null, xsum_nil, xsum_int, xsum_ref, xsum_ra, xsum_long, xsum_double, xsum_null, xfl_nil, xfl_int, xfl_ref, xfl_ra, xfl_null, xfl_long, xfl_double, List.length_cons, List.length_nil, k0, b0, b5, gE_a, gE_n, gE_off, hn, ta, ha', ha, tn, h, h1, xfk, xfv, xak, xan, xcls, xsv', List.getElem?_cons_zero, List.getElem?_cons_succ, List.getD_cons_zero, List.getD_cons_succ, Option.getD_some, Option.isSome_some, if_true, if_pos, xcont, Option.toList_none, Option.toList_some, List.nil_append, List.cons_append]
theorem c_sign {k : Nat} {a e : Int} (hS : ClS S k) (hC : CvI g k) (ha : 0 ≤ a) (ha2 : a < 100000) : Cw X (d + 1) 70 [.ref k] (hp S (gE g k a e)) Q = Q (.inl (some (.int (iI (sgn (tkv g k a)))))) (hp S (gE g k a e)) := by
  have k0 := hS.1
  have hr := tkv_rng hC a
  obtain ⟨t, et⟩ : ∃ t, tkv g k a = t := ⟨_, rfl⟩
  rw [et] at hr
  have tk : ti (t % 8) = t % 8 := ti_eq (by omega) (by omega)
  unfold sgn
  rw [e70, et]
  by_cases h : t % 8 = 5
  · simp (config := { decide := true }) only [w_aload_n0 (pc' := 1) q70 d70_0 rfl, w_invv0 (ci := 2) (pc' := 4) q70 d70_1 rfl n70_128 k70_128_2 m71.1, w_istore_n1 (pc' := 5) q70 d70_4 rfl, w_iload_n1 (pc' := 6) q70 d70_5 rfl, w_invs1 (pc' := 9) q70 d70_6 rfl (by decide +kernel) k70_131_99 m171.1, w_iconst (pc' := 10) q70 d70_9 rfl, w_icmp_eq (tg := 15) (pc' := 13) q70 d70_10 (by decide) rfl, w_iconst (pc' := 14) q70 d70_13 rfl, w_creturn q70 d70_14 m70.2.1, w_iload_n1 (pc' := 16) q70 d70_15 rfl, w_invs1 (pc' := 19) q70 d70_16 rfl (by decide +kernel) k70_137_99 m169.1, w_i2c (pc' := 20) q70 d70_19 rfl, w_creturn q70 d70_20 m70.2.1, gs_off, gs_off0, gs_0off, gs_2, xN_0, xN_2, xN_3, xN_6, xN_7, xN_8, xN_9, xN_10, xN_11, xN_12, xN_13, xN_14, xN_15, xN_16, xN_17, xN_18, xN_19, xN_20, xN_21, xN_22, xN_23, xN_24, xN_25, xN_26, xN_27, xN_28, xN_29, xN_30, xN_31, xN_32, xN_33, xN_34, xN_35, xN_36, xN_37, xN_38, xN_39, xN_40, xN_41, xN_42, xN_43, xN_44, xN_45, xN_46, xN_47, xN_48, xN_49, xN_50, xN_51, xN_52, xN_53, xN_54, xN_55, ti_0, ti_1, ti_2, ti_3, ti_4, ti_5, ti_6, ti_7, ti_8, ti_9, ti_10, ti_16, ti_19, ti_20, ti_29, ti_30, ti_31, ti_32, ti_35, ti_36, ti_38, ti_39, ti_40, ti_41, ti_42, ti_43, ti_44, ti_45, ti_46, ti_47, ti_48, ti_49, ti_50, ti_51, ti_52, ti_53, ti_54, ti_55, ti_56, ti_57, ti_58, ti_59, ti_60, ti_61, ti_62, ti_63, ti_64, ti_65, ti_74, ti_77, ti_126, ti_200, ti_201, ti_202, ti_203, ti_204, ti_205, ti_210, ti_255, ti_256, ti_400, ti_512, ti_600, ti_601, ti_602, ti_1000, ti_1023, ti_1024, ti_2000, ti_10000, ti_12602, ti_999999, ti_m999999, ti_m1, ti_2000000, ti_3000000, xN_1, xN_4, xN_5, xN_60, xN_61, xN_64, xN_200, xN_800, xN_12000, xN_12602, eq_self, and_self, and_true, true_and, if_true, if_false, decide_true, Nat.reduceLeDiff, xc2_int, xc2_ref, xc2_ra, xc2_null, xc2_long, xc2_none, xisaT_ref, xisaT_ra, xisaT_null, xc1T_int, xc1T_ref, xc1T_ra, xc1T_null, xsum_nil, xsum_int, xsum_ref, xsum_ra, xsum_long, xsum_double, xsum_null, xfl_nil, xfl_int, xfl_ref, xfl_ra, xfl_null, xfl_long, xfl_double, List.length_cons, List.length_nil, k0, c_tok hS hC ha ha2, et, c_kind hr.1 (show t < 2147483648 by omega), c_content hr.1 (show t < 2147483648 by omega), tk, h, xnc_pos (show 0 ≤ t / 8 by omega) (show t / 8 < 2147483648 by omega), xcb_eq (show 0 ≤ t / 8 % 65536 by omega) (show t / 8 % 65536 < 65536 by omega), xfk, xfv, xak, xan, xcls, xsv', List.getElem?_cons_zero, List.getElem?_cons_succ, List.getD_cons_zero, List.getD_cons_succ, Option.getD_some, Option.isSome_some, if_true, if_pos, xcont, Option.toList_none, Option.toList_some, List.nil_append, List.cons_append]
  · simp (config := { decide := true }) only [w_aload_n0 (pc' := 1) q70 d70_0 rfl, w_invv0 (ci := 2) (pc' := 4) q70 d70_1 rfl n70_128 k70_128_2 m71.1, w_istore_n1 (pc' := 5) q70 d70_4 rfl, w_iload_n1 (pc' := 6) q70 d70_5 rfl, w_invs1 (pc' := 9) q70 d70_6 rfl (by decide +kernel) k70_131_99 m171.1, w_iconst (pc' := 10) q70 d70_9 rfl, w_icmp_eq (tg := 15) (pc' := 13) q70 d70_10 (by decide) rfl, w_iconst (pc' := 14) q70 d70_13 rfl, w_creturn q70 d70_14 m70.2.1, w_iload_n1 (pc' := 16) q70 d70_15 rfl, w_invs1 (pc' := 19) q70 d70_16 rfl (by decide +kernel) k70_137_99 m169.1, w_i2c (pc' := 20) q70 d70_19 rfl, w_creturn q70 d70_20 m70.2.1, gs_off, gs_off0, gs_0off, gs_2, xN_0, xN_2, xN_3, xN_6, xN_7, xN_8, xN_9, xN_10, xN_11, xN_12, xN_13, xN_14, xN_15, xN_16, xN_17, xN_18, xN_19, xN_20, xN_21, xN_22, xN_23, xN_24, xN_25, xN_26, xN_27, xN_28, xN_29, xN_30, xN_31, xN_32, xN_33, xN_34, xN_35, xN_36, xN_37, xN_38, xN_39, xN_40, xN_41, xN_42, xN_43, xN_44, xN_45, xN_46, xN_47, xN_48, xN_49, xN_50, xN_51, xN_52, xN_53, xN_54, xN_55, ti_0, ti_1, ti_2, ti_3, ti_4, ti_5, ti_6, ti_7, ti_8, ti_9, ti_10, ti_16, ti_19, ti_20, ti_29, ti_30, ti_31, ti_32, ti_35, ti_36, ti_38, ti_39, ti_40, ti_41, ti_42, ti_43, ti_44, ti_45, ti_46, ti_47, ti_48, ti_49, ti_50, ti_51, ti_52, ti_53, ti_54, ti_55, ti_56, ti_57, ti_58, ti_59, ti_60, ti_61, ti_62, ti_63, ti_64, ti_65, ti_74, ti_77, ti_126, ti_200, ti_201, ti_202, ti_203, ti_204, ti_205, ti_210, ti_255, ti_256, ti_400, ti_512, ti_600, ti_601, ti_602, ti_1000, ti_1023, ti_1024, ti_2000, ti_10000, ti_12602, ti_999999, ti_m999999, ti_m1, ti_2000000, ti_3000000, xN_1, xN_4, xN_5, xN_60, xN_61, xN_64, xN_200, xN_800, xN_12000, xN_12602, eq_self, and_self, and_true, true_and, if_true, if_false, decide_true, Nat.reduceLeDiff, xc2_int, xc2_ref, xc2_ra, xc2_null, xc2_long, xc2_none, xisaT_ref, xisaT_ra, xisaT_null, xc1T_int, xc1T_ref, xc1T_ra, xc1T_null, xsum_nil, xsum_int, xsum_ref, xsum_ra, xsum_long, xsum_double, xsum_null, xfl_nil, xfl_int, xfl_ref, xfl_ra, xfl_null, xfl_long, xfl_double, List.length_cons, List.length_nil, k0, c_tok hS hC ha ha2, et, c_kind hr.1 (show t < 2147483648 by omega), tk, h, xcb_eq (show (0 : Int) ≤ 0 by decide) (show (0 : Int) < 65536 by decide), xfk, xfv, xak, xan, xcls, xsv', List.getElem?_cons_zero, List.getElem?_cons_succ, List.getD_cons_zero, List.getD_cons_succ, Option.getD_some, Option.isSome_some, if_true, if_pos, xcont, Option.toList_none, Option.toList_some, List.nil_append, List.cons_append]
theorem c_failed {k : Nat} {a e z : Int} (hS : ClS S k) (he : 0 ≤ e) (he2 : e ≤ 5) : Cw X d 66 [.ref k, .int (iI z)] (hp S (gE g k a e)) Q = Q (.inl (some (.long (lI 0)))) (hp S (gE g k a (if e = 0 then z else e))) := by
  have k0 := hS.1
  have te : ti e = e := ti_eq (by omega) (by omega)
  rw [e66]
  by_cases h : e = 0
  · subst h
    simp (config := { decide := true }) only [w_aload_n0 (pc' := 1) q66 d66_0 rfl, w_getI (pc' := 4) q66 d66_1 rfl f66_83, w_if_ne (tg := 12) (pc' := 7) q66 d66_4 (by decide) rfl, w_aload_n0 (pc' := 8) q66 d66_7 rfl, w_iload_n1 (pc' := 9) q66 d66_8 rfl, w_putI (pc' := 12) q66 d66_9 rfl f66_83 rfl (by decide +kernel), w_lconst0 (pc' := 13) q66 d66_12 rfl, w_lreturn q66 d66_13 m66.2.1, gs_off, gs_off0, gs_0off, gs_2, xN_0, xN_2, xN_3, xN_6, xN_7, xN_8, xN_9, xN_10, xN_11, xN_12, xN_13, xN_14, xN_15, xN_16, xN_17, xN_18, xN_19, xN_20, xN_21, xN_22, xN_23, xN_24, xN_25, xN_26, xN_27, xN_28, xN_29, xN_30, xN_31, xN_32, xN_33, xN_34, xN_35, xN_36, xN_37, xN_38, xN_39, xN_40, xN_41, xN_42, xN_43, xN_44, xN_45, xN_46, xN_47, xN_48, xN_49, xN_50, xN_51, xN_52, xN_53, xN_54, xN_55, ti_0, ti_1, ti_2, ti_3, ti_4, ti_5, ti_6, ti_7, ti_8, ti_9, ti_10, ti_16, ti_19, ti_20, ti_29, ti_30, ti_31, ti_32, ti_35, ti_36, ti_38, ti_39, ti_40, ti_41, ti_42, ti_43, ti_44, ti_45, ti_46, ti_47, ti_48, ti_49, ti_50, ti_51, ti_52, ti_53, ti_54, ti_55, ti_56, ti_57, ti_58, ti_59, ti_60, ti_61, ti_62, ti_63, ti_64, ti_65, ti_74, ti_77, ti_126, ti_200, ti_201, ti_202, ti_203, ti_204, ti_205, ti_210, ti_255, ti_256, ti_400, ti_512, ti_600, ti_601, ti_602, ti_1000, ti_1023, ti_1024, ti_2000, ti_10000, ti_12602, ti_999999, ti_m999999, ti_m1, ti_2000000, ti_3000000, xN_1, xN_4, xN_5, xN_60, xN_61, xN_64, xN_200, xN_800, xN_12000, xN_12602, eq_self, and_self, and_true, true_and, if_true, if_false, decide_true, Nat.reduceLeDiff, xc2_int, xc2_ref, xc2_ra, xc2_null, xc2_long, xc2_none, xisaT_ref, xisaT_ra, xisaT_null, xc1T_int, xc1T_ref, xc1T_ra, xc1T_null, xsum_nil, xsum_int, xsum_ref, xsum_ra, xsum_long, xsum_double, xsum_null, xfl_nil, xfl_int, xfl_ref, xfl_ra, xfl_null, xfl_long, xfl_double, List.length_cons, List.length_nil, k0, gE_e, gE_se, xfk, xfv, xak, xan, xcls, xsv', List.getElem?_cons_zero, List.getElem?_cons_succ, List.getD_cons_zero, List.getD_cons_succ, Option.getD_some, Option.isSome_some, if_true, if_pos, xcont, Option.toList_none, Option.toList_some, List.nil_append, List.cons_append]
  · simp (config := { decide := true }) only [w_aload_n0 (pc' := 1) q66 d66_0 rfl, w_getI (pc' := 4) q66 d66_1 rfl f66_83, w_if_ne (tg := 12) (pc' := 7) q66 d66_4 (by decide) rfl, w_aload_n0 (pc' := 8) q66 d66_7 rfl, w_iload_n1 (pc' := 9) q66 d66_8 rfl, w_putI (pc' := 12) q66 d66_9 rfl f66_83 rfl (by decide +kernel), w_lconst0 (pc' := 13) q66 d66_12 rfl, w_lreturn q66 d66_13 m66.2.1, gs_off, gs_off0, gs_0off, gs_2, xN_0, xN_2, xN_3, xN_6, xN_7, xN_8, xN_9, xN_10, xN_11, xN_12, xN_13, xN_14, xN_15, xN_16, xN_17, xN_18, xN_19, xN_20, xN_21, xN_22, xN_23, xN_24, xN_25, xN_26, xN_27, xN_28, xN_29, xN_30, xN_31, xN_32, xN_33, xN_34, xN_35, xN_36, xN_37, xN_38, xN_39, xN_40, xN_41, xN_42, xN_43, xN_44, xN_45, xN_46, xN_47, xN_48, xN_49, xN_50, xN_51, xN_52, xN_53, xN_54, xN_55, ti_0, ti_1, ti_2, ti_3, ti_4, ti_5, ti_6, ti_7, ti_8, ti_9, ti_10, ti_16, ti_19, ti_20, ti_29, ti_30, ti_31, ti_32, ti_35, ti_36, ti_38, ti_39, ti_40, ti_41, ti_42, ti_43, ti_44, ti_45, ti_46, ti_47, ti_48, ti_49, ti_50, ti_51, ti_52, ti_53, ti_54, ti_55, ti_56, ti_57, ti_58, ti_59, ti_60, ti_61, ti_62, ti_63, ti_64, ti_65, ti_74, ti_77, ti_126, ti_200, ti_201, ti_202, ti_203, ti_204, ti_205, ti_210, ti_255, ti_256, ti_400, ti_512, ti_600, ti_601, ti_602, ti_1000, ti_1023, ti_1024, ti_2000, ti_10000, ti_12602, ti_999999, ti_m999999, ti_m1, ti_2000000, ti_3000000, xN_1, xN_4, xN_5, xN_60, xN_61, xN_64, xN_200, xN_800, xN_12000, xN_12602, eq_self, and_self, and_true, true_and, if_true, if_false, decide_true, Nat.reduceLeDiff, xc2_int, xc2_ref, xc2_ra, xc2_null, xc2_long, xc2_none, xisaT_ref, xisaT_ra, xisaT_null, xc1T_int, xc1T_ref, xc1T_ra, xc1T_null, xsum_nil, xsum_int, xsum_ref, xsum_ra, xsum_long, xsum_double, xsum_null, xfl_nil, xfl_int, xfl_ref, xfl_ra, xfl_null, xfl_long, xfl_double, List.length_cons, List.length_nil, k0, gE_e, gE_se, te, h, xfk, xfv, xak, xan, xcls, xsv', List.getElem?_cons_zero, List.getElem?_cons_succ, List.getD_cons_zero, List.getD_cons_succ, Option.getD_some, Option.isSome_some, if_true, if_pos, xcont, Option.toList_none, Option.toList_some, List.nil_append, List.cons_append]
theorem c_limited {k : Nat} {a z : Int} (hS : ClS S k) (hz : -9000000000000000000 ≤ z) (hz2 : z ≤ 9000000000000000000) : Cw X d 81 [.ref k, .long (lI z)] (hp S (gE g k a 0)) Q = Q (.inl (some (.long (lI (lim z).2)))) (hp S (gE g k a (lim z).1)) := by
  have k0 := hS.1
  have tz : tl z = z := tl_eq (by omega) (by omega)
  have t1 : tl (-999999999) = -999999999 := by decide
  have t2 : tl 999999999 = 999999999 := by decide
  rw [e81]
  by_cases h1 : z < -999999999
  · have h3 : lim z = (2, 0) := if_neg (by omega)
    simp (config := { decide := true }) only [w_aload_n0 (pc' := 1) q81 d81_0 rfl, w_getI (pc' := 4) q81 d81_1 rfl f81_83, w_if_eq (tg := 9) (pc' := 7) q81 d81_4 (by decide) rfl, w_lconst0 (pc' := 8) q81 d81_7 rfl, w_lreturn q81 d81_8 m81.2.1, w_lload_n1 (pc' := 10) q81 d81_9 rfl, w_ldc2 (z := (-999999999)) (pc' := 13) q81 d81_10 rfl (by decide +kernel), w_lcmp (pc' := 14) q81 d81_13 rfl, w_if_lt (tg := 25) (pc' := 17) q81 d81_14 (by decide) rfl, w_lload_n1 (pc' := 18) q81 d81_17 rfl, w_ldc2 (z := (999999999)) (pc' := 21) q81 d81_18 rfl (by decide +kernel), w_lcmp (pc' := 22) q81 d81_21 rfl, w_if_le (tg := 32) (pc' := 25) q81 d81_22 (by decide) rfl, w_aload_n0 (pc' := 26) q81 d81_25 rfl, w_iconst (pc' := 27) q81 d81_26 rfl, w_putI (pc' := 30) q81 d81_27 rfl f81_83 rfl (by decide +kernel), w_lconst0 (pc' := 31) q81 d81_30 rfl, w_lreturn q81 d81_31 m81.2.1, w_lload_n1 (pc' := 33) q81 d81_32 rfl, w_lreturn q81 d81_33 m81.2.1, gs_off, gs_off0, gs_0off, gs_2, xN_0, xN_2, xN_3, xN_6, xN_7, xN_8, xN_9, xN_10, xN_11, xN_12, xN_13, xN_14, xN_15, xN_16, xN_17, xN_18, xN_19, xN_20, xN_21, xN_22, xN_23, xN_24, xN_25, xN_26, xN_27, xN_28, xN_29, xN_30, xN_31, xN_32, xN_33, xN_34, xN_35, xN_36, xN_37, xN_38, xN_39, xN_40, xN_41, xN_42, xN_43, xN_44, xN_45, xN_46, xN_47, xN_48, xN_49, xN_50, xN_51, xN_52, xN_53, xN_54, xN_55, ti_0, ti_1, ti_2, ti_3, ti_4, ti_5, ti_6, ti_7, ti_8, ti_9, ti_10, ti_16, ti_19, ti_20, ti_29, ti_30, ti_31, ti_32, ti_35, ti_36, ti_38, ti_39, ti_40, ti_41, ti_42, ti_43, ti_44, ti_45, ti_46, ti_47, ti_48, ti_49, ti_50, ti_51, ti_52, ti_53, ti_54, ti_55, ti_56, ti_57, ti_58, ti_59, ti_60, ti_61, ti_62, ti_63, ti_64, ti_65, ti_74, ti_77, ti_126, ti_200, ti_201, ti_202, ti_203, ti_204, ti_205, ti_210, ti_255, ti_256, ti_400, ti_512, ti_600, ti_601, ti_602, ti_1000, ti_1023, ti_1024, ti_2000, ti_10000, ti_12602, ti_999999, ti_m999999, ti_m1, ti_2000000, ti_3000000, xN_1, xN_4, xN_5, xN_60, xN_61, xN_64, xN_200, xN_800, xN_12000, xN_12602, eq_self, and_self, and_true, true_and, if_true, if_false, decide_true, Nat.reduceLeDiff, xc2_int, xc2_ref, xc2_ra, xc2_null, xc2_long, xc2_none, xisaT_ref, xisaT_ra, xisaT_null, xc1T_int, xc1T_ref, xc1T_ra, xc1T_null, xsum_nil, xsum_int, xsum_ref, xsum_ra, xsum_long, xsum_double, xsum_null, xfl_nil, xfl_int, xfl_ref, xfl_ra, xfl_null, xfl_long, xfl_double, List.length_cons, List.length_nil, k0, gE_e, gE_se, lcm_lt, lcm_le, tz, t1, t2, h1, h3, xfk, xfv, xak, xan, xcls, xsv', List.getElem?_cons_zero, List.getElem?_cons_succ, List.getD_cons_zero, List.getD_cons_succ, Option.getD_some, Option.isSome_some, if_true, if_pos, xcont, Option.toList_none, Option.toList_some, List.nil_append, List.cons_append]
  · by_cases h2 : z ≤ 999999999
    · have h3 : lim z = (0, z) := if_pos ⟨by omega, by omega⟩
      simp (config := { decide := true }) only [w_aload_n0 (pc' := 1) q81 d81_0 rfl, w_getI (pc' := 4) q81 d81_1 rfl f81_83, w_if_eq (tg := 9) (pc' := 7) q81 d81_4 (by decide) rfl, w_lconst0 (pc' := 8) q81 d81_7 rfl, w_lreturn q81 d81_8 m81.2.1, w_lload_n1 (pc' := 10) q81 d81_9 rfl, w_ldc2 (z := (-999999999)) (pc' := 13) q81 d81_10 rfl (by decide +kernel), w_lcmp (pc' := 14) q81 d81_13 rfl, w_if_lt (tg := 25) (pc' := 17) q81 d81_14 (by decide) rfl, w_lload_n1 (pc' := 18) q81 d81_17 rfl, w_ldc2 (z := (999999999)) (pc' := 21) q81 d81_18 rfl (by decide +kernel), w_lcmp (pc' := 22) q81 d81_21 rfl, w_if_le (tg := 32) (pc' := 25) q81 d81_22 (by decide) rfl, w_aload_n0 (pc' := 26) q81 d81_25 rfl, w_iconst (pc' := 27) q81 d81_26 rfl, w_putI (pc' := 30) q81 d81_27 rfl f81_83 rfl (by decide +kernel), w_lconst0 (pc' := 31) q81 d81_30 rfl, w_lreturn q81 d81_31 m81.2.1, w_lload_n1 (pc' := 33) q81 d81_32 rfl, w_lreturn q81 d81_33 m81.2.1, gs_off, gs_off0, gs_0off, gs_2, xN_0, xN_2, xN_3, xN_6, xN_7, xN_8, xN_9, xN_10, xN_11, xN_12, xN_13, xN_14, xN_15, xN_16, xN_17, xN_18, xN_19, xN_20, xN_21, xN_22, xN_23, xN_24, xN_25, xN_26, xN_27, xN_28, xN_29, xN_30, xN_31, xN_32, xN_33, xN_34, xN_35, xN_36, xN_37, xN_38, xN_39, xN_40, xN_41, xN_42, xN_43, xN_44, xN_45, xN_46, xN_47, xN_48, xN_49, xN_50, xN_51, xN_52, xN_53, xN_54, xN_55, ti_0, ti_1, ti_2, ti_3, ti_4, ti_5, ti_6, ti_7, ti_8, ti_9, ti_10, ti_16, ti_19, ti_20, ti_29, ti_30, ti_31, ti_32, ti_35, ti_36, ti_38, ti_39, ti_40, ti_41, ti_42, ti_43, ti_44, ti_45, ti_46, ti_47, ti_48, ti_49, ti_50, ti_51, ti_52, ti_53, ti_54, ti_55, ti_56, ti_57, ti_58, ti_59, ti_60, ti_61, ti_62, ti_63, ti_64, ti_65, ti_74, ti_77, ti_126, ti_200, ti_201, ti_202, ti_203, ti_204, ti_205, ti_210, ti_255, ti_256, ti_400, ti_512, ti_600, ti_601, ti_602, ti_1000, ti_1023, ti_1024, ti_2000, ti_10000, ti_12602, ti_999999, ti_m999999, ti_m1, ti_2000000, ti_3000000, xN_1, xN_4, xN_5, xN_60, xN_61, xN_64, xN_200, xN_800, xN_12000, xN_12602, eq_self, and_self, and_true, true_and, if_true, if_false, decide_true, Nat.reduceLeDiff, xc2_int, xc2_ref, xc2_ra, xc2_null, xc2_long, xc2_none, xisaT_ref, xisaT_ra, xisaT_null, xc1T_int, xc1T_ref, xc1T_ra, xc1T_null, xsum_nil, xsum_int, xsum_ref, xsum_ra, xsum_long, xsum_double, xsum_null, xfl_nil, xfl_int, xfl_ref, xfl_ra, xfl_null, xfl_long, xfl_double, List.length_cons, List.length_nil, k0, gE_e, gE_se, lcm_lt, lcm_le, tz, t1, t2, h1, h2, h3, xfk, xfv, xak, xan, xcls, xsv', List.getElem?_cons_zero, List.getElem?_cons_succ, List.getD_cons_zero, List.getD_cons_succ, Option.getD_some, Option.isSome_some, if_true, if_pos, xcont, Option.toList_none, Option.toList_some, List.nil_append, List.cons_append]
    · have h3 : lim z = (2, 0) := if_neg (by omega)
      simp (config := { decide := true }) only [w_aload_n0 (pc' := 1) q81 d81_0 rfl, w_getI (pc' := 4) q81 d81_1 rfl f81_83, w_if_eq (tg := 9) (pc' := 7) q81 d81_4 (by decide) rfl, w_lconst0 (pc' := 8) q81 d81_7 rfl, w_lreturn q81 d81_8 m81.2.1, w_lload_n1 (pc' := 10) q81 d81_9 rfl, w_ldc2 (z := (-999999999)) (pc' := 13) q81 d81_10 rfl (by decide +kernel), w_lcmp (pc' := 14) q81 d81_13 rfl, w_if_lt (tg := 25) (pc' := 17) q81 d81_14 (by decide) rfl, w_lload_n1 (pc' := 18) q81 d81_17 rfl, w_ldc2 (z := (999999999)) (pc' := 21) q81 d81_18 rfl (by decide +kernel), w_lcmp (pc' := 22) q81 d81_21 rfl, w_if_le (tg := 32) (pc' := 25) q81 d81_22 (by decide) rfl, w_aload_n0 (pc' := 26) q81 d81_25 rfl, w_iconst (pc' := 27) q81 d81_26 rfl, w_putI (pc' := 30) q81 d81_27 rfl f81_83 rfl (by decide +kernel), w_lconst0 (pc' := 31) q81 d81_30 rfl, w_lreturn q81 d81_31 m81.2.1, w_lload_n1 (pc' := 33) q81 d81_32 rfl, w_lreturn q81 d81_33 m81.2.1, gs_off, gs_off0, gs_0off, gs_2, xN_0, xN_2, xN_3, xN_6, xN_7, xN_8, xN_9, xN_10, xN_11, xN_12, xN_13, xN_14, xN_15, xN_16, xN_17, xN_18, xN_19, xN_20, xN_21, xN_22, xN_23, xN_24, xN_25, xN_26, xN_27, xN_28, xN_29, xN_30, xN_31, xN_32, xN_33, xN_34, xN_35, xN_36, xN_37, xN_38, xN_39, xN_40, xN_41, xN_42, xN_43, xN_44, xN_45, xN_46, xN_47, xN_48, xN_49, xN_50, xN_51, xN_52, xN_53, xN_54, xN_55, ti_0, ti_1, ti_2, ti_3, ti_4, ti_5, ti_6, ti_7, ti_8, ti_9, ti_10, ti_16, ti_19, ti_20, ti_29, ti_30, ti_31, ti_32, ti_35, ti_36, ti_38, ti_39, ti_40, ti_41, ti_42, ti_43, ti_44, ti_45, ti_46, ti_47, ti_48, ti_49, ti_50, ti_51, ti_52, ti_53, ti_54, ti_55, ti_56, ti_57, ti_58, ti_59, ti_60, ti_61, ti_62, ti_63, ti_64, ti_65, ti_74, ti_77, ti_126, ti_200, ti_201, ti_202, ti_203, ti_204, ti_205, ti_210, ti_255, ti_256, ti_400, ti_512, ti_600, ti_601, ti_602, ti_1000, ti_1023, ti_1024, ti_2000, ti_10000, ti_12602, ti_999999, ti_m999999, ti_m1, ti_2000000, ti_3000000, xN_1, xN_4, xN_5, xN_60, xN_61, xN_64, xN_200, xN_800, xN_12000, xN_12602, eq_self, and_self, and_true, true_and, if_true, if_false, decide_true, Nat.reduceLeDiff, xc2_int, xc2_ref, xc2_ra, xc2_null, xc2_long, xc2_none, xisaT_ref, xisaT_ra, xisaT_null, xc1T_int, xc1T_ref, xc1T_ra, xc1T_null, xsum_nil, xsum_int, xsum_ref, xsum_ra, xsum_long, xsum_double, xsum_null, xfl_nil, xfl_int, xfl_ref, xfl_ra, xfl_null, xfl_long, xfl_double, List.length_cons, List.length_nil, k0, gE_e, gE_se, lcm_lt, lcm_le, tz, t1, t2, h1, h2, h3, xfk, xfv, xak, xan, xcls, xsv', List.getElem?_cons_zero, List.getElem?_cons_succ, List.getD_cons_zero, List.getD_cons_succ, Option.getD_some, Option.isSome_some, if_true, if_pos, xcont, Option.toList_none, Option.toList_some, List.nil_append, List.cons_append]
theorem c_limited_e {k : Nat} {a z e : Int} (hS : ClS S k) (he : 1 ≤ e) (he2 : e ≤ 5) : Cw X d 81 [.ref k, .long (lI z)] (hp S (gE g k a e)) Q = Q (.inl (some (.long (lI 0)))) (hp S (gE g k a e)) := by
  have k0 := hS.1
  have te : ti e = e := ti_eq (by omega) (by omega)
  have h : ¬ e = 0 := by omega
  rw [e81]
  simp (config := { decide := true }) only [w_aload_n0 (pc' := 1) q81 d81_0 rfl, w_getI (pc' := 4) q81 d81_1 rfl f81_83, w_if_eq (tg := 9) (pc' := 7) q81 d81_4 (by decide) rfl, w_lconst0 (pc' := 8) q81 d81_7 rfl, w_lreturn q81 d81_8 m81.2.1, w_lload_n1 (pc' := 10) q81 d81_9 rfl, w_ldc2 (z := (-999999999)) (pc' := 13) q81 d81_10 rfl (by decide +kernel), w_lcmp (pc' := 14) q81 d81_13 rfl, w_if_lt (tg := 25) (pc' := 17) q81 d81_14 (by decide) rfl, w_lload_n1 (pc' := 18) q81 d81_17 rfl, w_ldc2 (z := (999999999)) (pc' := 21) q81 d81_18 rfl (by decide +kernel), w_lcmp (pc' := 22) q81 d81_21 rfl, w_if_le (tg := 32) (pc' := 25) q81 d81_22 (by decide) rfl, w_aload_n0 (pc' := 26) q81 d81_25 rfl, w_iconst (pc' := 27) q81 d81_26 rfl, w_putI (pc' := 30) q81 d81_27 rfl f81_83 rfl (by decide +kernel), w_lconst0 (pc' := 31) q81 d81_30 rfl, w_lreturn q81 d81_31 m81.2.1, w_lload_n1 (pc' := 33) q81 d81_32 rfl, w_lreturn q81 d81_33 m81.2.1, gs_off, gs_off0, gs_0off, gs_2, xN_0, xN_2, xN_3, xN_6, xN_7, xN_8, xN_9, xN_10, xN_11, xN_12, xN_13, xN_14, xN_15, xN_16, xN_17, xN_18, xN_19, xN_20, xN_21, xN_22, xN_23, xN_24, xN_25, xN_26, xN_27, xN_28, xN_29, xN_30, xN_31, xN_32, xN_33, xN_34, xN_35, xN_36, xN_37, xN_38, xN_39, xN_40, xN_41, xN_42, xN_43, xN_44, xN_45, xN_46, xN_47, xN_48, xN_49, xN_50, xN_51, xN_52, xN_53, xN_54, xN_55, ti_0, ti_1, ti_2, ti_3, ti_4, ti_5, ti_6, ti_7, ti_8, ti_9, ti_10, ti_16, ti_19, ti_20, ti_29, ti_30, ti_31, ti_32, ti_35, ti_36, ti_38, ti_39, ti_40, ti_41, ti_42, ti_43, ti_44, ti_45, ti_46, ti_47, ti_48, ti_49, ti_50, ti_51, ti_52, ti_53, ti_54, ti_55, ti_56, ti_57, ti_58, ti_59, ti_60, ti_61, ti_62, ti_63, ti_64, ti_65, ti_74, ti_77, ti_126, ti_200, ti_201, ti_202, ti_203, ti_204, ti_205, ti_210, ti_255, ti_256, ti_400, ti_512, ti_600, ti_601, ti_602, ti_1000, ti_1023, ti_1024, ti_2000, ti_10000, ti_12602, ti_999999, ti_m999999, ti_m1, ti_2000000, ti_3000000, xN_1, xN_4, xN_5, xN_60, xN_61, xN_64, xN_200, xN_800, xN_12000, xN_12602, eq_self, and_self, and_true, true_and, if_true, if_false, decide_true, Nat.reduceLeDiff, xc2_int, xc2_ref, xc2_ra, xc2_null, xc2_long, xc2_none, xisaT_ref, xisaT_ra, xisaT_null, xc1T_int, xc1T_ref, xc1T_ra, xc1T_null, xsum_nil, xsum_int, xsum_ref, xsum_ra, xsum_long, xsum_double, xsum_null, xfl_nil, xfl_int, xfl_ref, xfl_ra, xfl_null, xfl_long, xfl_double, List.length_cons, List.length_nil, k0, gE_e, te, h, xfk, xfv, xak, xan, xcls, xsv', List.getElem?_cons_zero, List.getElem?_cons_succ, List.getD_cons_zero, List.getD_cons_succ, Option.getD_some, Option.isSome_some, if_true, if_pos, xcont, Option.toList_none, Option.toList_some, List.nil_append, List.cons_append]
theorem c_quotient {k : Nat} {a x y : Int} (hS : ClS S k) (hx : -999999999 ≤ x) (hx2 : x ≤ 999999999) (hy : -999999999 ≤ y) (hy2 : y ≤ 999999999) : Cw X (d + 1) 82 [.ref k, .long (lI x), .long (lI y)] (hp S (gE g k a 0)) Q = Q (.inl (some (.long (lI (if y = 0 then 0 else x.fdiv y))))) (hp S (gE g k a (if y = 0 then 1 else 0))) := by
  have k0 := hS.1
  have ty : tl y = y := tl_eq (by omega) (by omega)
  rw [e82]
  by_cases h : y = 0
  · subst h
    simp (config := { decide := true }) only [w_lload_n3 (pc' := 1) q82 d82_0 rfl, w_lconst0 (pc' := 2) q82 d82_1 rfl, w_lcmp (pc' := 3) q82 d82_2 rfl, w_if_ne (tg := 12) (pc' := 6) q82 d82_3 (by decide) rfl, w_aload_n0 (pc' := 7) q82 d82_6 rfl, w_iconst (pc' := 8) q82 d82_7 rfl, w_invv1 (ci := 2) (pc' := 11) q82 d82_8 rfl n82_96 k82_96_2 m66.1, w_lreturn q82 d82_11 m82.2.1, w_lload_n1 (pc' := 13) q82 d82_12 rfl, w_lload_n3 (pc' := 14) q82 d82_13 rfl, w_invs2 (pc' := 17) q82 d82_14 rfl (by decide +kernel) k82_120_99 m412.1, w_lreturn q82 d82_17 m82.2.1, gs_off, gs_off0, gs_0off, gs_2, xN_0, xN_2, xN_3, xN_6, xN_7, xN_8, xN_9, xN_10, xN_11, xN_12, xN_13, xN_14, xN_15, xN_16, xN_17, xN_18, xN_19, xN_20, xN_21, xN_22, xN_23, xN_24, xN_25, xN_26, xN_27, xN_28, xN_29, xN_30, xN_31, xN_32, xN_33, xN_34, xN_35, xN_36, xN_37, xN_38, xN_39, xN_40, xN_41, xN_42, xN_43, xN_44, xN_45, xN_46, xN_47, xN_48, xN_49, xN_50, xN_51, xN_52, xN_53, xN_54, xN_55, ti_0, ti_1, ti_2, ti_3, ti_4, ti_5, ti_6, ti_7, ti_8, ti_9, ti_10, ti_16, ti_19, ti_20, ti_29, ti_30, ti_31, ti_32, ti_35, ti_36, ti_38, ti_39, ti_40, ti_41, ti_42, ti_43, ti_44, ti_45, ti_46, ti_47, ti_48, ti_49, ti_50, ti_51, ti_52, ti_53, ti_54, ti_55, ti_56, ti_57, ti_58, ti_59, ti_60, ti_61, ti_62, ti_63, ti_64, ti_65, ti_74, ti_77, ti_126, ti_200, ti_201, ti_202, ti_203, ti_204, ti_205, ti_210, ti_255, ti_256, ti_400, ti_512, ti_600, ti_601, ti_602, ti_1000, ti_1023, ti_1024, ti_2000, ti_10000, ti_12602, ti_999999, ti_m999999, ti_m1, ti_2000000, ti_3000000, xN_1, xN_4, xN_5, xN_60, xN_61, xN_64, xN_200, xN_800, xN_12000, xN_12602, eq_self, and_self, and_true, true_and, if_true, if_false, decide_true, Nat.reduceLeDiff, xc2_int, xc2_ref, xc2_ra, xc2_null, xc2_long, xc2_none, xisaT_ref, xisaT_ra, xisaT_null, xc1T_int, xc1T_ref, xc1T_ra, xc1T_null, xsum_nil, xsum_int, xsum_ref, xsum_ra, xsum_long, xsum_double, xsum_null, xfl_nil, xfl_int, xfl_ref, xfl_ra, xfl_null, xfl_long, xfl_double, List.length_cons, List.length_nil, k0, lcm_eq, tl_0, c_failed hS (show (0 : Int) ≤ 0 by decide) (show (0 : Int) ≤ 5 by decide), xfk, xfv, xak, xan, xcls, xsv', List.getElem?_cons_zero, List.getElem?_cons_succ, List.getD_cons_zero, List.getD_cons_succ, Option.getD_some, Option.isSome_some, if_true, if_pos, xcont, Option.toList_none, Option.toList_some, List.nil_append, List.cons_append]
  · simp (config := { decide := true }) only [w_lload_n3 (pc' := 1) q82 d82_0 rfl, w_lconst0 (pc' := 2) q82 d82_1 rfl, w_lcmp (pc' := 3) q82 d82_2 rfl, w_if_ne (tg := 12) (pc' := 6) q82 d82_3 (by decide) rfl, w_aload_n0 (pc' := 7) q82 d82_6 rfl, w_iconst (pc' := 8) q82 d82_7 rfl, w_invv1 (ci := 2) (pc' := 11) q82 d82_8 rfl n82_96 k82_96_2 m66.1, w_lreturn q82 d82_11 m82.2.1, w_lload_n1 (pc' := 13) q82 d82_12 rfl, w_lload_n3 (pc' := 14) q82 d82_13 rfl, w_invs2 (pc' := 17) q82 d82_14 rfl (by decide +kernel) k82_120_99 m412.1, w_lreturn q82 d82_17 m82.2.1, gs_off, gs_off0, gs_0off, gs_2, xN_0, xN_2, xN_3, xN_6, xN_7, xN_8, xN_9, xN_10, xN_11, xN_12, xN_13, xN_14, xN_15, xN_16, xN_17, xN_18, xN_19, xN_20, xN_21, xN_22, xN_23, xN_24, xN_25, xN_26, xN_27, xN_28, xN_29, xN_30, xN_31, xN_32, xN_33, xN_34, xN_35, xN_36, xN_37, xN_38, xN_39, xN_40, xN_41, xN_42, xN_43, xN_44, xN_45, xN_46, xN_47, xN_48, xN_49, xN_50, xN_51, xN_52, xN_53, xN_54, xN_55, ti_0, ti_1, ti_2, ti_3, ti_4, ti_5, ti_6, ti_7, ti_8, ti_9, ti_10, ti_16, ti_19, ti_20, ti_29, ti_30, ti_31, ti_32, ti_35, ti_36, ti_38, ti_39, ti_40, ti_41, ti_42, ti_43, ti_44, ti_45, ti_46, ti_47, ti_48, ti_49, ti_50, ti_51, ti_52, ti_53, ti_54, ti_55, ti_56, ti_57, ti_58, ti_59, ti_60, ti_61, ti_62, ti_63, ti_64, ti_65, ti_74, ti_77, ti_126, ti_200, ti_201, ti_202, ti_203, ti_204, ti_205, ti_210, ti_255, ti_256, ti_400, ti_512, ti_600, ti_601, ti_602, ti_1000, ti_1023, ti_1024, ti_2000, ti_10000, ti_12602, ti_999999, ti_m999999, ti_m1, ti_2000000, ti_3000000, xN_1, xN_4, xN_5, xN_60, xN_61, xN_64, xN_200, xN_800, xN_12000, xN_12602, eq_self, and_self, and_true, true_and, if_true, if_false, decide_true, Nat.reduceLeDiff, xc2_int, xc2_ref, xc2_ra, xc2_null, xc2_long, xc2_none, xisaT_ref, xisaT_ra, xisaT_null, xc1T_int, xc1T_ref, xc1T_ra, xc1T_null, xsum_nil, xsum_int, xsum_ref, xsum_ra, xsum_long, xsum_double, xsum_null, xfl_nil, xfl_int, xfl_ref, xfl_ra, xfl_null, xfl_long, xfl_double, List.length_cons, List.length_nil, k0, lcm_eq, tl_0, ty, h, c_floorDiv hx hx2 hy hy2 h, xfk, xfv, xak, xan, xcls, xsv', List.getElem?_cons_zero, List.getElem?_cons_succ, List.getD_cons_zero, List.getD_cons_succ, Option.getD_some, Option.isSome_some, if_true, if_pos, xcont, Option.toList_none, Option.toList_some, List.nil_append, List.cons_append]
/-- with an error the quotient is something -/
theorem c_valueOf {k : Nat} {a c : Int} (hS : ClS S k) (hC : CvI g k) (hc : 0 ≤ c) (hc2 : c < 200) : Cw X (d + 1) 73 [.ref k, .int (iI c)] (hp S (gE g k a 0)) Q = Q (.inl (some (.long (lI (if g (k + 1 + 3) c = 0 then g (k + 1 + 2) c else 0))))) (hp S (gE g k a (g (k + 1 + 3) c))) := by
  obtain ⟨k0, ⟨b0, b1, b2, b3, b4, b5⟩, -⟩ := id hS
  have tc : ti c = c := ti_eq (by omega) (by omega)
  have hr := hC.1.2.2.1 c
  have hv := hC.1.2.1 c
  have te : ti (g (k + 1 + 3) c) = g (k + 1 + 3) c := ti_eq (by omega) (by omega)
  have tv : ti (g (k + 1 + 2) c) = g (k + 1 + 2) c := ti_eq (by omega) (by omega)
  rw [e73]
  by_cases h : g (k + 1 + 3) c = 0
  · simp (config := { decide := true }) only [w_aload_n0 (pc' := 1) q73 d73_0 rfl, w_getV (pc' := 4) q73 d73_1 rfl f73_14, w_getV (pc' := 7) q73 d73_4 rfl f73_153, w_iload_n1 (pc' := 8) q73 d73_7 rfl, w_iaload (pc' := 9) q73 d73_8 rfl, w_if_eq (tg := 26) (pc' := 12) q73 d73_9 (by decide) rfl, w_aload_n0 (pc' := 13) q73 d73_12 rfl, w_aload_n0 (pc' := 14) q73 d73_13 rfl, w_getV (pc' := 17) q73 d73_14 rfl f73_14, w_getV (pc' := 20) q73 d73_17 rfl f73_153, w_iload_n1 (pc' := 21) q73 d73_20 rfl, w_iaload (pc' := 22) q73 d73_21 rfl, w_invv1 (ci := 2) (pc' := 25) q73 d73_22 rfl n73_96 k73_96_2 m66.1, w_lreturn q73 d73_25 m73.2.1, w_aload_n0 (pc' := 27) q73 d73_26 rfl, w_getV (pc' := 30) q73 d73_27 rfl f73_14, w_getV (pc' := 33) q73 d73_30 rfl f73_156, w_iload_n1 (pc' := 34) q73 d73_33 rfl, w_iaload (pc' := 35) q73 d73_34 rfl, w_i2l (pc' := 36) q73 d73_35 rfl, w_lreturn q73 d73_36 m73.2.1, gs_off, gs_off0, gs_0off, gs_2, xN_0, xN_2, xN_3, xN_6, xN_7, xN_8, xN_9, xN_10, xN_11, xN_12, xN_13, xN_14, xN_15, xN_16, xN_17, xN_18, xN_19, xN_20, xN_21, xN_22, xN_23, xN_24, xN_25, xN_26, xN_27, xN_28, xN_29, xN_30, xN_31, xN_32, xN_33, xN_34, xN_35, xN_36, xN_37, xN_38, xN_39, xN_40, xN_41, xN_42, xN_43, xN_44, xN_45, xN_46, xN_47, xN_48, xN_49, xN_50, xN_51, xN_52, xN_53, xN_54, xN_55, ti_0, ti_1, ti_2, ti_3, ti_4, ti_5, ti_6, ti_7, ti_8, ti_9, ti_10, ti_16, ti_19, ti_20, ti_29, ti_30, ti_31, ti_32, ti_35, ti_36, ti_38, ti_39, ti_40, ti_41, ti_42, ti_43, ti_44, ti_45, ti_46, ti_47, ti_48, ti_49, ti_50, ti_51, ti_52, ti_53, ti_54, ti_55, ti_56, ti_57, ti_58, ti_59, ti_60, ti_61, ti_62, ti_63, ti_64, ti_65, ti_74, ti_77, ti_126, ti_200, ti_201, ti_202, ti_203, ti_204, ti_205, ti_210, ti_255, ti_256, ti_400, ti_512, ti_600, ti_601, ti_602, ti_1000, ti_1023, ti_1024, ti_2000, ti_10000, ti_12602, ti_999999, ti_m999999, ti_m1, ti_2000000, ti_3000000, xN_1, xN_4, xN_5, xN_60, xN_61, xN_64, xN_200, xN_800, xN_12000, xN_12602, eq_self, and_self, and_true, true_and, if_true, if_false, decide_true, Nat.reduceLeDiff, xc2_int, xc2_ref, xc2_ra, xc2_null, xc2_long, xc2_none, xisaT_ref, xisaT_ra, xisaT_null, xc1T_int, xc1T_ref, xc1T_ra, xc1T_null, xsum_nil, xsum_int, xsum_ref, xsum_ra, xsum_long, xsum_double, xsum_null, xfl_nil, xfl_int, xfl_ref, xfl_ra, xfl_null, xfl_long, xfl_double, List.length_cons, List.length_nil, k0, b0, b2, b3, gE_off, tc, hc, hc2, te, tv, h, xi2l_eq, xfk, xfv, xak, xan, xcls, xsv', List.getElem?_cons_zero, List.getElem?_cons_succ, List.getD_cons_zero, List.getD_cons_succ, Option.getD_some, Option.isSome_some, if_true, if_pos, xcont, Option.toList_none, Option.toList_some, List.nil_append, List.cons_append]
  · simp (config := { decide := true }) only [w_aload_n0 (pc' := 1) q73 d73_0 rfl, w_getV (pc' := 4) q73 d73_1 rfl f73_14, w_getV (pc' := 7) q73 d73_4 rfl f73_153, w_iload_n1 (pc' := 8) q73 d73_7 rfl, w_iaload (pc' := 9) q73 d73_8 rfl, w_if_eq (tg := 26) (pc' := 12) q73 d73_9 (by decide) rfl, w_aload_n0 (pc' := 13) q73 d73_12 rfl, w_aload_n0 (pc' := 14) q73 d73_13 rfl, w_getV (pc' := 17) q73 d73_14 rfl f73_14, w_getV (pc' := 20) q73 d73_17 rfl f73_153, w_iload_n1 (pc' := 21) q73 d73_20 rfl, w_iaload (pc' := 22) q73 d73_21 rfl, w_invv1 (ci := 2) (pc' := 25) q73 d73_22 rfl n73_96 k73_96_2 m66.1, w_lreturn q73 d73_25 m73.2.1, w_aload_n0 (pc' := 27) q73 d73_26 rfl, w_getV (pc' := 30) q73 d73_27 rfl f73_14, w_getV (pc' := 33) q73 d73_30 rfl f73_156, w_iload_n1 (pc' := 34) q73 d73_33 rfl, w_iaload (pc' := 35) q73 d73_34 rfl, w_i2l (pc' := 36) q73 d73_35 rfl, w_lreturn q73 d73_36 m73.2.1, gs_off, gs_off0, gs_0off, gs_2, xN_0, xN_2, xN_3, xN_6, xN_7, xN_8, xN_9, xN_10, xN_11, xN_12, xN_13, xN_14, xN_15, xN_16, xN_17, xN_18, xN_19, xN_20, xN_21, xN_22, xN_23, xN_24, xN_25, xN_26, xN_27, xN_28, xN_29, xN_30, xN_31, xN_32, xN_33, xN_34, xN_35, xN_36, xN_37, xN_38, xN_39, xN_40, xN_41, xN_42, xN_43, xN_44, xN_45, xN_46, xN_47, xN_48, xN_49, xN_50, xN_51, xN_52, xN_53, xN_54, xN_55, ti_0, ti_1, ti_2, ti_3, ti_4, ti_5, ti_6, ti_7, ti_8, ti_9, ti_10, ti_16, ti_19, ti_20, ti_29, ti_30, ti_31, ti_32, ti_35, ti_36, ti_38, ti_39, ti_40, ti_41, ti_42, ti_43, ti_44, ti_45, ti_46, ti_47, ti_48, ti_49, ti_50, ti_51, ti_52, ti_53, ti_54, ti_55, ti_56, ti_57, ti_58, ti_59, ti_60, ti_61, ti_62, ti_63, ti_64, ti_65, ti_74, ti_77, ti_126, ti_200, ti_201, ti_202, ti_203, ti_204, ti_205, ti_210, ti_255, ti_256, ti_400, ti_512, ti_600, ti_601, ti_602, ti_1000, ti_1023, ti_1024, ti_2000, ti_10000, ti_12602, ti_999999, ti_m999999, ti_m1, ti_2000000, ti_3000000, xN_1, xN_4, xN_5, xN_60, xN_61, xN_64, xN_200, xN_800, xN_12000, xN_12602, eq_self, and_self, and_true, true_and, if_true, if_false, decide_true, Nat.reduceLeDiff, xc2_int, xc2_ref, xc2_ra, xc2_null, xc2_long, xc2_none, xisaT_ref, xisaT_ra, xisaT_null, xc1T_int, xc1T_ref, xc1T_ra, xc1T_null, xsum_nil, xsum_int, xsum_ref, xsum_ra, xsum_long, xsum_double, xsum_null, xfl_nil, xfl_int, xfl_ref, xfl_ra, xfl_null, xfl_long, xfl_double, List.length_cons, List.length_nil, k0, b0, b2, b3, gE_off, tc, hc, hc2, te, h, c_failed hS (show (0 : Int) ≤ 0 by decide) (show (0 : Int) ≤ 5 by decide), xfk, xfv, xak, xan, xcls, xsv', List.getElem?_cons_zero, List.getElem?_cons_succ, List.getD_cons_zero, List.getD_cons_succ, Option.getD_some, Option.isSome_some, if_true, if_pos, xcont, Option.toList_none, Option.toList_some, List.nil_append, List.cons_append]
end
