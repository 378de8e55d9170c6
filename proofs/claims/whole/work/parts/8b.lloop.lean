/-! The law: the start and the loop -/
section
variable {X : xX} {S S' : xLm} {g g' : xGm} {P P' : Pd} {A A' : Sh} {sn sn' : Option Sh} {H H' : List Sh}
theorem CdI_0 (h0 : g 0 4 = 0) (h1 : ∀ h, 1 ≤ h → h < 7 → g h = fun _ => 0) (h2 : ZC g 7 ∧ g 7 = fun _ => 0) (h3 : ZC g 23 ∧ g 23 = fun _ => 0) (h4 : ∀ h, 39 ≤ h → h < 46 → g h = fun _ => 0) (h5 : ∀ q : Nat, q < 4 → g 46 q = ((47 + 6 * q : Nat) : Int)) (h6 : ∀ h, 47 ≤ h → h < 71 → g h = fun _ => 0) : CdI g 0 1 7 23 39 45 P0 A0 none [] := by
  obtain ⟨c1, c2⟩ := ClI_0 h2.2 h2.1
  obtain ⟨t1, t2⟩ := ClI_0 h3.2 h3.1
  have p1 : g 1 = fun _ => 0 := h1 1 (by decide) (by decide)
  have y0 : g 45 = fun _ => 0 := h4 45 (by decide) (by decide)
  refine ⟨⟨⟨by rw [p1]; decide, by rw [p1]; decide, z_rg (h1 2 (by decide) (by decide)) (by decide) (by decide)⟩, by rw [p1]; rfl, fun i i1 i2 => absurd i2 (by show ¬ i < 0; omega)⟩, ⟨c1, c2, A0_ok⟩, TrI_of t1, ⟨z_StI (fun j j1 j2 => h4 _ (by omega) (by omega)), h0⟩, ⟨⟨fun q hq => h5 q hq, by rw [y0]; decide, by rw [y0]; decide⟩, fun q hq => z_StI (fun j j1 j2 => h6 _ (by omega) (by omega)), by rw [y0]; rfl, by decide, fun i B hB => by cases hB⟩⟩
/-- the law's start -/
theorem l_start : ∃ S g, LI S g P0 A0 none [] ∧ (S.2.2.1 ≤ 300 ∧ S.2.2.2 ≤ 500000) ∧ ∀ Q, Wx X 400 417 0 (xen 9 [.retAddr 0]) [] xw0 Q = Wx X 400 417 23 [some (.retAddr 0), some (.ref 0), some (.ref 73), some (.ref 98), some (.int (iI 0)), none, none, none, none] [] (hp S g) Q := by
  obtain ⟨S0, eS0⟩ : ∃ S0 : xLm, S0 = (fun _ => .inl (0, 0), 0, 0, 0) := ⟨_, rfl⟩
  have e0 : xw0 = hp S0 (fun _ _ => 0) := by rw [eS0]; rfl
  have w10 : (xDf.getD 10 []).length = 7 := by decide
  have w11 : (xDf.getD 11 []).length = 54 := by decide
  have N0 : S0.2.1 = 0 := by rw [eS0]
  obtain ⟨Sa, eSa⟩ : ∃ Sa, Sa = xSn S0 (.inr (10, xDs 10)) (xDf.getD 10 []).length := ⟨_, rfl⟩
  have ha : Sa.1 0 = .inr (10, xDs 10) := by rw [eSa, ← N0]; exact xSn_at
  have na : Sa.2.1 = 0 + 1 := by rw [eSa]; show S0.2.1 + 1 = _; omega
  have ca : Sa.2.2.1 = 1 ∧ Sa.2.2.2 = 7 := by rw [eSa, w10, eS0]; exact ⟨rfl, rfl⟩
  obtain ⟨S1, g1, a1, ⟨a2, a3, a4, a5, a6⟩, ⟨b1, b2⟩, ⟨n1, -, c1, c2⟩, ⟨r0, r1, r2, r3, r4, r5, r6, r7, r8⟩, k1⟩ := n_Sheet (X := X) (d := 395) (c := 0) (g := gz (fun _ _ => 0) 0 0) ha na
  have h1c : xcls (Sa.1 0) = some 10 := by rw [ha]; rfl
  have z0 : g1 0 4 = 0 := by rw [r0]; unfold gz; rw [if_pos rfl]
  obtain ⟨Sb, eSb⟩ : ∃ Sb, Sb = xSn S1 (.inr (11, xDs 11)) (xDf.getD 11 []).length := ⟨_, rfl⟩
  have n1' : S1.2.1 = 73 := n1
  have hb : Sb.1 73 = .inr (11, xDs 11) := by rw [eSb, ← n1']; exact xSn_at
  have ob : ∀ h, h < 73 → Sb.1 h = S1.1 h := fun h hh => by rw [eSb]; exact xSn_off (by omega)
  have nb : Sb.2.1 = 73 + 1 := by rw [eSb]; show S1.2.1 + 1 = _; omega
  have cb : Sb.2.2.1 = S1.2.2.1 + 1 ∧ Sb.2.2.2 = S1.2.2.2 + 54 := by rw [eSb, w11]; exact ⟨rfl, rfl⟩
  obtain ⟨S2, g2, m1, ⟨n2, l2, c3, c4⟩, i2, k2⟩ := n_Model (X := X) (d := 395) (m := 73) (g := gz g1 73 0) hb nb (by unfold gz; rw [if_pos rfl])
  have n2' : S2.2.1 = 98 := n2
  obtain ⟨S3, eS3⟩ : ∃ S3, S3 = xSn S2 (.inl (1, 1)) 1 := ⟨_, rfl⟩
  have h3 : S3.1 98 = .inl (1, 1) := by rw [eS3, ← n2']; exact xSn_at
  have o3 : ∀ h, h < 98 → S3.1 h = S2.1 h := fun h hh => by rw [eS3]; exact xSn_off (by omega)
  have n3 : S3.2.1 = 99 := by rw [eS3]; show S2.2.1 + 1 = _; omega
  have cc : S3.2.2.1 = S2.2.2.1 + 1 ∧ S3.2.2.2 = S2.2.2.2 + 1 := by rw [eS3]; exact ⟨rfl, rfl⟩
  have sh : ∀ h, h < 73 → S3.1 h = S1.1 h := fun h hh => by rw [o3 h (by omega), (l2 h hh).1, ob h hh]
  have gr3 : ∀ h, h < 73 → gz g2 98 0 h = g1 h := fun h hh => by rw [gz_row (by omega), (l2 h hh).2, gz_row (by omega)]
  refine ⟨S3, gz g2 98 0, ⟨⟨(sh 0 (by decide)).trans a1, ⟨PdS_congr (fun i hi => sh _ (by omega)) a2, ClS_congr (fun x x1 x2 => sh x (by omega)) a3, ClS_congr (fun x x1 x2 => sh x (by omega)) a4, StS_congr (fun i hi => sh _ (by omega)) a5, HsS_congr (fun x x1 x2 => sh x (by omega)) a6⟩, by omega⟩, MdS_congr (fun x x1 x2 => o3 x (by omega)) m1, h3, by omega, ⟨72, 16, (sh 71 (by decide)).trans b1, (sh 72 (by decide)).trans b2, .inl rfl, by omega, by decide, ?_, ?_, ?_, z_rg ((gr3 72 (by decide)).trans r8) (by decide) (by decide)⟩, ?_, MdI_rows (fun x x1 x2 => gz_row (by omega)) i2⟩, ⟨by omega, by omega⟩, fun Q => ?_⟩
  · rw [gr3 71 (by decide)]; exact congrFun r7 1
  · rw [gr3 71 (by decide), show g1 71 = fun _ => 0 from r7]; decide
  · rw [gr3 71 (by decide), show g1 71 = fun _ => 0 from r7]; decide
  · refine CdI_high (g := g1) (by decide) (fun h hh => gr3 h (by omega)) (CdI_0 z0 (fun h x1 x2 => r1 h x1 x2) r2 r3 (fun h x1 x2 => r4 h x1 x2) (fun q hq => ?_) (fun h x1 x2 => r6 h x1 x2))
    have := r5 q hq
    rw [show 0 + 47 + 6 * q = 47 + 6 * q by omega] at this
    exact this
  · rw [e0, show xen 9 [.retAddr 0] = [some (.retAddr 0), none, none, none, none, none, none, none, none] from rfl]
    rw [w_new (ci := 10) (pc' := 3) q417 d417_0 rfl (by decide +kernel) (by decide +kernel) (by decide), N0, ← eSa]
    have hx73 : xcls (Sb.1 73) = some 11 := by rw [hb]; rfl
    simp (config := { decide := true }) only [w_dup (pc' := 4) q417 d417_3 rfl, w_invp0 (pc' := 7) q417 d417_4 rfl (by decide +kernel) k417_137_98 m0.1, w_astore_n1 (pc' := 8) q417 d417_7 rfl, gs_off, gs_off0, gs_0off, gs_2, xN_0, xN_2, xN_3, xN_6, xN_7, xN_8, xN_9, xN_10, xN_11, xN_12, xN_13, xN_14, xN_15, xN_16, xN_17, xN_18, xN_19, xN_20, xN_21, xN_22, xN_23, xN_24, xN_25, xN_26, xN_27, xN_28, xN_29, xN_30, xN_31, xN_32, xN_33, xN_34, xN_35, xN_36, xN_37, xN_38, xN_39, xN_40, xN_41, xN_42, xN_43, xN_44, xN_45, xN_46, xN_47, xN_48, xN_49, xN_50, xN_51, xN_52, xN_53, xN_54, xN_55, ti_0, ti_1, ti_2, ti_3, ti_4, ti_5, ti_6, ti_7, ti_8, ti_9, ti_10, ti_16, ti_19, ti_20, ti_29, ti_30, ti_31, ti_32, ti_35, ti_36, ti_38, ti_39, ti_40, ti_41, ti_42, ti_43, ti_44, ti_45, ti_46, ti_47, ti_48, ti_49, ti_50, ti_51, ti_52, ti_53, ti_54, ti_55, ti_56, ti_57, ti_58, ti_59, ti_60, ti_61, ti_62, ti_63, ti_64, ti_65, ti_74, ti_77, ti_126, ti_200, ti_201, ti_202, ti_203, ti_204, ti_205, ti_210, ti_255, ti_256, ti_400, ti_512, ti_600, ti_601, ti_602, ti_1000, ti_1023, ti_1024, ti_2000, ti_10000, ti_12602, ti_999999, ti_m999999, ti_m1, ti_2000000, ti_3000000, xN_1, xN_4, xN_5, xN_60, xN_61, xN_64, xN_200, xN_800, xN_12000, xN_12602, eq_self, and_self, and_true, true_and, if_true, if_false, decide_true, Nat.reduceLeDiff, xc2_int, xc2_ref, xc2_ra, xc2_null, xc2_long, xc2_none, xisaT_ref, xisaT_ra, xisaT_null, xc1T_int, xc1T_ref, xc1T_ra, xc1T_null, xsum_nil, xsum_int, xsum_ref, xsum_ra, xsum_long, xsum_double, xsum_null, xfl_nil, xfl_int, xfl_ref, xfl_ra, xfl_null, xfl_long, xfl_double, List.length_cons, List.length_nil, ha, k1, xfk, xfv, xak, xan, xcls, xsv', List.getElem?_cons_zero, List.getElem?_cons_succ, List.getD_cons_zero, List.getD_cons_succ, Option.getD_some, Option.isSome_some, if_true, if_pos, xcont, Option.toList_none, Option.toList_some, List.nil_append, List.cons_append]
    rw [w_new (ci := 11) (pc' := 11) q417 d417_8 rfl (by decide +kernel) (by decide +kernel) (by decide), n1', ← eSb]
    simp (config := { decide := true }) only [w_dup (pc' := 12) q417 d417_11 rfl, w_invp0 (pc' := 15) q417 d417_12 rfl (by decide +kernel) k417_140_98 m217.1, w_astore_n2 (pc' := 16) q417 d417_15 rfl, w_iconst (pc' := 17) q417 d417_16 rfl, gs_off, gs_off0, gs_0off, gs_2, xN_0, xN_2, xN_3, xN_6, xN_7, xN_8, xN_9, xN_10, xN_11, xN_12, xN_13, xN_14, xN_15, xN_16, xN_17, xN_18, xN_19, xN_20, xN_21, xN_22, xN_23, xN_24, xN_25, xN_26, xN_27, xN_28, xN_29, xN_30, xN_31, xN_32, xN_33, xN_34, xN_35, xN_36, xN_37, xN_38, xN_39, xN_40, xN_41, xN_42, xN_43, xN_44, xN_45, xN_46, xN_47, xN_48, xN_49, xN_50, xN_51, xN_52, xN_53, xN_54, xN_55, ti_0, ti_1, ti_2, ti_3, ti_4, ti_5, ti_6, ti_7, ti_8, ti_9, ti_10, ti_16, ti_19, ti_20, ti_29, ti_30, ti_31, ti_32, ti_35, ti_36, ti_38, ti_39, ti_40, ti_41, ti_42, ti_43, ti_44, ti_45, ti_46, ti_47, ti_48, ti_49, ti_50, ti_51, ti_52, ti_53, ti_54, ti_55, ti_56, ti_57, ti_58, ti_59, ti_60, ti_61, ti_62, ti_63, ti_64, ti_65, ti_74, ti_77, ti_126, ti_200, ti_201, ti_202, ti_203, ti_204, ti_205, ti_210, ti_255, ti_256, ti_400, ti_512, ti_600, ti_601, ti_602, ti_1000, ti_1023, ti_1024, ti_2000, ti_10000, ti_12602, ti_999999, ti_m999999, ti_m1, ti_2000000, ti_3000000, xN_1, xN_4, xN_5, xN_60, xN_61, xN_64, xN_200, xN_800, xN_12000, xN_12602, eq_self, and_self, and_true, true_and, if_true, if_false, decide_true, Nat.reduceLeDiff, xc2_int, xc2_ref, xc2_ra, xc2_null, xc2_long, xc2_none, xisaT_ref, xisaT_ra, xisaT_null, xc1T_int, xc1T_ref, xc1T_ra, xc1T_null, xsum_nil, xsum_int, xsum_ref, xsum_ra, xsum_long, xsum_double, xsum_null, xfl_nil, xfl_int, xfl_ref, xfl_ra, xfl_null, xfl_long, xfl_double, List.length_cons, List.length_nil, hb, k2, xfk, xfv, xak, xan, xcls, xsv', List.getElem?_cons_zero, List.getElem?_cons_succ, List.getD_cons_zero, List.getD_cons_succ, Option.getD_some, Option.isSome_some, if_true, if_pos, xcont, Option.toList_none, Option.toList_some, List.nil_append, List.cons_append]
    rw [w_newa q417 d417_17 rfl rfl, w_tr1 (show 0 ≤ ti 1 ∧ ti 1 ≤ 20000 by decide), show (ti 1).toNat = 1 by decide, n2', ← eS3]
    simp (config := { decide := true }) only [w_astore_n3 (pc' := 20) q417 d417_19 rfl, w_iconst (pc' := 21) q417 d417_20 rfl, w_istore4 (pc' := 23) q417 d417_21 rfl, gs_off, gs_off0, gs_0off, gs_2, xN_0, xN_2, xN_3, xN_6, xN_7, xN_8, xN_9, xN_10, xN_11, xN_12, xN_13, xN_14, xN_15, xN_16, xN_17, xN_18, xN_19, xN_20, xN_21, xN_22, xN_23, xN_24, xN_25, xN_26, xN_27, xN_28, xN_29, xN_30, xN_31, xN_32, xN_33, xN_34, xN_35, xN_36, xN_37, xN_38, xN_39, xN_40, xN_41, xN_42, xN_43, xN_44, xN_45, xN_46, xN_47, xN_48, xN_49, xN_50, xN_51, xN_52, xN_53, xN_54, xN_55, ti_0, ti_1, ti_2, ti_3, ti_4, ti_5, ti_6, ti_7, ti_8, ti_9, ti_10, ti_16, ti_19, ti_20, ti_29, ti_30, ti_31, ti_32, ti_35, ti_36, ti_38, ti_39, ti_40, ti_41, ti_42, ti_43, ti_44, ti_45, ti_46, ti_47, ti_48, ti_49, ti_50, ti_51, ti_52, ti_53, ti_54, ti_55, ti_56, ti_57, ti_58, ti_59, ti_60, ti_61, ti_62, ti_63, ti_64, ti_65, ti_74, ti_77, ti_126, ti_200, ti_201, ti_202, ti_203, ti_204, ti_205, ti_210, ti_255, ti_256, ti_400, ti_512, ti_600, ti_601, ti_602, ti_1000, ti_1023, ti_1024, ti_2000, ti_10000, ti_12602, ti_999999, ti_m999999, ti_m1, ti_2000000, ti_3000000, xN_1, xN_4, xN_5, xN_60, xN_61, xN_64, xN_200, xN_800, xN_12000, xN_12602, eq_self, and_self, and_true, true_and, if_true, if_false, decide_true, Nat.reduceLeDiff, xc2_int, xc2_ref, xc2_ra, xc2_null, xc2_long, xc2_none, xisaT_ref, xisaT_ra, xisaT_null, xc1T_int, xc1T_ref, xc1T_ra, xc1T_null, xsum_nil, xsum_int, xsum_ref, xsum_ra, xsum_long, xsum_double, xsum_null, xfl_nil, xfl_int, xfl_ref, xfl_ra, xfl_null, xfl_long, xfl_double, List.length_cons, List.length_nil, xfk, xfv, xak, xan, xcls, xsv', List.getElem?_cons_zero, List.getElem?_cons_succ, List.getD_cons_zero, List.getD_cons_succ, Option.getD_some, Option.isSome_some, if_true, if_pos, xcont, Option.toList_none, Option.toList_some, List.nil_append, List.cons_append]
/-- which case -/
theorem l_disp {i N : Int} {y5 y6 y7 y8 : Option Value} (hi : 0 ≤ i) (hN : i + 4 ≤ X.1) (hX : X.1 ≤ 2048) (hL : LI S g P A sn H) (hB : LB N A sn H) (hN9 : N ≤ 800000) : ∀ k : Nat, k < 50 → LSt X S g N i (([252, 308, 321, 334, 347, 403, 471, 527, 607, 675, 731, 787, 843, 899, 943, 987, 1000, 1044, 1107, 1170, 1233, 1289, 1345, 1408, 1471, 1534, 1597, 1660, 1716, 1784, 1840, 1908, 1964, 2020, 2095, 2158, 2214, 2270, 2326, 2339, 2352, 2365, 2378, 2391, 2446, 2501, 2542, 2567, 2647, 2727] : List Nat).getD k 0) y5 y6 y7 y8
  | 0, _ => s_0 hi hN hX hL hB hN9
  | 1, _ => s_1 hi hN hX hL hB hN9
  | 2, _ => s_2 hi hN hX hL hB hN9
  | 3, _ => s_3 hi hN hX hL hB hN9
  | 4, _ => s_4 hi hN hX hL hB hN9
  | 5, _ => s_5 hi hN hX hL hB hN9
  | 6, _ => s_6 hi hN hX hL hB hN9
  | 7, _ => s_7 hi hN hX hL hB hN9
  | 8, _ => s_8 hi hN hX hL hB hN9
  | 9, _ => s_9 hi hN hX hL hB hN9
  | 10, _ => s_10 hi hN hX hL hB hN9
  | 11, _ => s_11 hi hN hX hL hB hN9
  | 12, _ => s_12 hi hN hX hL hB hN9
  | 13, _ => s_13 hi hN hX hL hB hN9
  | 14, _ => s_14 hi hN hX hL hB hN9
  | 15, _ => s_15 hi hN hX hL hB hN9
  | 16, _ => s_16 hi hN hX hL hB hN9
  | 17, _ => s_17 hi hN hX hL hB hN9
  | 18, _ => s_18 hi hN hX hL hB hN9
  | 19, _ => s_19 hi hN hX hL hB hN9
  | 20, _ => s_20 hi hN hX hL hB hN9
  | 21, _ => s_21 hi hN hX hL hB hN9
  | 22, _ => s_22 hi hN hX hL hB hN9
  | 23, _ => s_23 hi hN hX hL hB hN9
  | 24, _ => s_24 hi hN hX hL hB hN9
  | 25, _ => s_25 hi hN hX hL hB hN9
  | 26, _ => s_26 hi hN hX hL hB hN9
  | 27, _ => s_27 hi hN hX hL hB hN9
  | 28, _ => s_28 hi hN hX hL hB hN9
  | 29, _ => s_29 hi hN hX hL hB hN9
  | 30, _ => s_30 hi hN hX hL hB hN9
  | 31, _ => s_31 hi hN hX hL hB hN9
  | 32, _ => s_32 hi hN hX hL hB hN9
  | 33, _ => s_33 hi hN hX hL hB hN9
  | 34, _ => s_34 hi hN hX hL hB hN9
  | 35, _ => s_35 hi hN hX hL hB hN9
  | 36, _ => s_36 hi hN hX hL hB hN9
  | 37, _ => s_37 hi hN hX hL hB hN9
  | 38, _ => s_38 hi hN hX hL hB hN9
  | 39, _ => s_39 hi hN hX hL hB hN9
  | 40, _ => s_40 hi hN hX hL hB hN9
  | 41, _ => s_41 hi hN hX hL hB hN9
  | 42, _ => s_42 hi hN hX hL hB hN9
  | 43, _ => s_43 hi hN hX hL hB hN9
  | 44, _ => s_44 hi hN hX hL hB hN9
  | 45, _ => s_45 hi hN hX hL hB hN9
  | 46, _ => s_46 hi hN hX hL hB hN9
  | 47, _ => s_47 hi hN hX hL hB hN9
  | 48, _ => s_48 hi hN hX hL hB hN9
  | 49, _ => s_49 hi hN hX hL hB hN9
  | k + 50, h => absurd h (by omega)
theorem l_law (hX : X.1 ≤ 2048) : ∀ (n t : Nat) (S : xLm) (g : xGm) (P : Pd) (A : Sh) (sn : Option Sh) (H : List Sh) (y5 y6 y7 y8 : Option Value), LI S g P A sn H → LB (200 * t) A sn H → t + n = 513 →
    ∃ S' g', S'.2.2.1 ≤ S.2.2.1 + 30 * n ∧ S'.2.2.2 ≤ S.2.2.2 + 4000 * n ∧ ∀ Q, Wx X 400 417 23 [some (.retAddr 0), some (.ref 0), some (.ref 73), some (.ref 98), some (.int (iI (4 * t))), y5, y6, y7, y8] [] (hp S g) Q = Q (.inl (some (.int (iI 1)))) (hp S' g') := by
  have tL : ti ((X.1 : Int) - 4) = (X.1 : Int) - 4 := ti_eq (by omega) (by omega)
  have t49 : ti 49 = 49 := by decide
  intro n
  induction n with
  | zero =>
    intro t S g P A sn H y5 y6 y7 y8 hL hB ht
    have t_i : ti (4 * (t : Int)) = 4 * t := ti_eq (by omega) (by omega)
    have hgt : (X.1 : Int) - 4 < 4 * t := by omega
    refine ⟨S, g, Nat.le_refl _, Nat.le_refl _, fun Q => ?_⟩
    simp (config := { decide := true }) only [w_iload4 (pc' := 25) q417 d417_23 rfl, w_aload_n0 (pc' := 26) q417 d417_25 rfl, w_slen (pc' := 27) q417 d417_26 rfl, w_iconst (pc' := 28) q417 d417_27 rfl, w_isub (pc' := 29) q417 d417_28 rfl, w_icmp_gt (tg := 2789) (pc' := 32) q417 d417_29 (by decide) rfl, w_iconst (pc' := 2790) q417 d417_2789 rfl, w_zreturn q417 d417_2790 m417.2.1, gs_off, gs_off0, gs_0off, gs_2, xN_0, xN_2, xN_3, xN_6, xN_7, xN_8, xN_9, xN_10, xN_11, xN_12, xN_13, xN_14, xN_15, xN_16, xN_17, xN_18, xN_19, xN_20, xN_21, xN_22, xN_23, xN_24, xN_25, xN_26, xN_27, xN_28, xN_29, xN_30, xN_31, xN_32, xN_33, xN_34, xN_35, xN_36, xN_37, xN_38, xN_39, xN_40, xN_41, xN_42, xN_43, xN_44, xN_45, xN_46, xN_47, xN_48, xN_49, xN_50, xN_51, xN_52, xN_53, xN_54, xN_55, ti_0, ti_1, ti_2, ti_3, ti_4, ti_5, ti_6, ti_7, ti_8, ti_9, ti_10, ti_16, ti_19, ti_20, ti_29, ti_30, ti_31, ti_32, ti_35, ti_36, ti_38, ti_39, ti_40, ti_41, ti_42, ti_43, ti_44, ti_45, ti_46, ti_47, ti_48, ti_49, ti_50, ti_51, ti_52, ti_53, ti_54, ti_55, ti_56, ti_57, ti_58, ti_59, ti_60, ti_61, ti_62, ti_63, ti_64, ti_65, ti_74, ti_77, ti_126, ti_200, ti_201, ti_202, ti_203, ti_204, ti_205, ti_210, ti_255, ti_256, ti_400, ti_512, ti_600, ti_601, ti_602, ti_1000, ti_1023, ti_1024, ti_2000, ti_10000, ti_12602, ti_999999, ti_m999999, ti_m1, ti_2000000, ti_3000000, xN_1, xN_4, xN_5, xN_60, xN_61, xN_64, xN_200, xN_800, xN_12000, xN_12602, eq_self, and_self, and_true, true_and, if_true, if_false, decide_true, Nat.reduceLeDiff, xc2_int, xc2_ref, xc2_ra, xc2_null, xc2_long, xc2_none, xisaT_ref, xisaT_ra, xisaT_null, xc1T_int, xc1T_ref, xc1T_ra, xc1T_null, xsum_nil, xsum_int, xsum_ref, xsum_ra, xsum_long, xsum_double, xsum_null, xfl_nil, xfl_int, xfl_ref, xfl_ra, xfl_null, xfl_long, xfl_double, List.length_cons, List.length_nil, tL, t_i, hgt, xzb_1, xfk, xfv, xak, xan, xcls, xsv', List.getElem?_cons_zero, List.getElem?_cons_succ, List.getD_cons_zero, List.getD_cons_succ, Option.getD_some, Option.isSome_some, if_true, if_pos, xcont, Option.toList_none, Option.toList_some, List.nil_append, List.cons_append]
  | succ n ih =>
    intro t S g P A sn H y5 y6 y7 y8 hL hB ht
    have t_i : ti (4 * (t : Int)) = 4 * t := ti_eq (by omega) (by omega)
    by_cases hgt : (X.1 : Int) - 4 < 4 * t
    · refine ⟨S, g, by omega, by omega, fun Q => ?_⟩
      simp (config := { decide := true }) only [w_iload4 (pc' := 25) q417 d417_23 rfl, w_aload_n0 (pc' := 26) q417 d417_25 rfl, w_slen (pc' := 27) q417 d417_26 rfl, w_iconst (pc' := 28) q417 d417_27 rfl, w_isub (pc' := 29) q417 d417_28 rfl, w_icmp_gt (tg := 2789) (pc' := 32) q417 d417_29 (by decide) rfl, w_iconst (pc' := 2790) q417 d417_2789 rfl, w_zreturn q417 d417_2790 m417.2.1, gs_off, gs_off0, gs_0off, gs_2, xN_0, xN_2, xN_3, xN_6, xN_7, xN_8, xN_9, xN_10, xN_11, xN_12, xN_13, xN_14, xN_15, xN_16, xN_17, xN_18, xN_19, xN_20, xN_21, xN_22, xN_23, xN_24, xN_25, xN_26, xN_27, xN_28, xN_29, xN_30, xN_31, xN_32, xN_33, xN_34, xN_35, xN_36, xN_37, xN_38, xN_39, xN_40, xN_41, xN_42, xN_43, xN_44, xN_45, xN_46, xN_47, xN_48, xN_49, xN_50, xN_51, xN_52, xN_53, xN_54, xN_55, ti_0, ti_1, ti_2, ti_3, ti_4, ti_5, ti_6, ti_7, ti_8, ti_9, ti_10, ti_16, ti_19, ti_20, ti_29, ti_30, ti_31, ti_32, ti_35, ti_36, ti_38, ti_39, ti_40, ti_41, ti_42, ti_43, ti_44, ti_45, ti_46, ti_47, ti_48, ti_49, ti_50, ti_51, ti_52, ti_53, ti_54, ti_55, ti_56, ti_57, ti_58, ti_59, ti_60, ti_61, ti_62, ti_63, ti_64, ti_65, ti_74, ti_77, ti_126, ti_200, ti_201, ti_202, ti_203, ti_204, ti_205, ti_210, ti_255, ti_256, ti_400, ti_512, ti_600, ti_601, ti_602, ti_1000, ti_1023, ti_1024, ti_2000, ti_10000, ti_12602, ti_999999, ti_m999999, ti_m1, ti_2000000, ti_3000000, xN_1, xN_4, xN_5, xN_60, xN_61, xN_64, xN_200, xN_800, xN_12000, xN_12602, eq_self, and_self, and_true, true_and, if_true, if_false, decide_true, Nat.reduceLeDiff, xc2_int, xc2_ref, xc2_ra, xc2_null, xc2_long, xc2_none, xisaT_ref, xisaT_ra, xisaT_null, xc1T_int, xc1T_ref, xc1T_ra, xc1T_null, xsum_nil, xsum_int, xsum_ref, xsum_ra, xsum_long, xsum_double, xsum_null, xfl_nil, xfl_int, xfl_ref, xfl_ra, xfl_null, xfl_long, xfl_double, List.length_cons, List.length_nil, tL, t_i, hgt, xzb_1, xfk, xfv, xak, xan, xcls, xsv', List.getElem?_cons_zero, List.getElem?_cons_succ, List.getD_cons_zero, List.getD_cons_succ, Option.getD_some, Option.isSome_some, if_true, if_pos, xcont, Option.toList_none, Option.toList_some, List.nil_append, List.cons_append]
    · have i0 : 0 ≤ 4 * (t : Int) := by omega
      have i1 : 4 * (t : Int) < X.1 := by omega
      obtain ⟨v, ev⟩ : ∃ v, xand (xsc X (4 * t)) 63 = v := ⟨_, rfl⟩
      have go : ∀ (pc : Nat), (∀ Q, Wx X 400 417 23 [some (.retAddr 0), some (.ref 0), some (.ref 73), some (.ref 98), some (.int (iI (4 * t))), y5, y6, y7, y8] [] (hp S g) Q = Wx X 400 417 pc [some (.retAddr 0), some (.ref 0), some (.ref 73), some (.ref 98), some (.int (iI (4 * t))), y5, y6, y7, y8] [] (hp S g) Q) → LSt X S g (200 * t) (4 * t) pc y5 y6 y7 y8 → ∃ S' g', S'.2.2.1 ≤ S.2.2.1 + 30 * (n + 1) ∧ S'.2.2.2 ≤ S.2.2.2 + 4000 * (n + 1) ∧ ∀ Q, Wx X 400 417 23 [some (.retAddr 0), some (.ref 0), some (.ref 73), some (.ref 98), some (.int (iI (4 * t))), y5, y6, y7, y8] [] (hp S g) Q = Q (.inl (some (.int (iI 1)))) (hp S' g') := fun pc hk hs => by
        obtain ⟨S1, g1, P1, A1, sn1, H1, z5, z6, z7, z8, l1, c1, b1, k1⟩ := hs
        obtain ⟨S2, g2, d1, d2, d3⟩ := ih (t + 1) S1 g1 P1 A1 sn1 H1 z5 z6 z7 z8 l1 (by rw [show (200 : Int) * ((t + 1 : Nat) : Int) = 200 * t + 200 by omega]; exact b1) (by omega)
        obtain ⟨c2, c3⟩ := c1
        refine ⟨S2, g2, by omega, by omega, fun Q => ?_⟩
        rw [hk Q, k1 Q, ← d3 Q, show (4 : Int) * ((t + 1 : Nat) : Int) = 4 * t + 4 by omega]
        simp (config := { decide := true }) only [w_iinc4 (z := (4)) (pc' := 2786) q417 d417_2783 rfl, w_goto (tg := 23) q417 d417_2786 (by decide), gs_off, gs_off0, gs_0off, gs_2, xN_0, xN_2, xN_3, xN_6, xN_7, xN_8, xN_9, xN_10, xN_11, xN_12, xN_13, xN_14, xN_15, xN_16, xN_17, xN_18, xN_19, xN_20, xN_21, xN_22, xN_23, xN_24, xN_25, xN_26, xN_27, xN_28, xN_29, xN_30, xN_31, xN_32, xN_33, xN_34, xN_35, xN_36, xN_37, xN_38, xN_39, xN_40, xN_41, xN_42, xN_43, xN_44, xN_45, xN_46, xN_47, xN_48, xN_49, xN_50, xN_51, xN_52, xN_53, xN_54, xN_55, ti_0, ti_1, ti_2, ti_3, ti_4, ti_5, ti_6, ti_7, ti_8, ti_9, ti_10, ti_16, ti_19, ti_20, ti_29, ti_30, ti_31, ti_32, ti_35, ti_36, ti_38, ti_39, ti_40, ti_41, ti_42, ti_43, ti_44, ti_45, ti_46, ti_47, ti_48, ti_49, ti_50, ti_51, ti_52, ti_53, ti_54, ti_55, ti_56, ti_57, ti_58, ti_59, ti_60, ti_61, ti_62, ti_63, ti_64, ti_65, ti_74, ti_77, ti_126, ti_200, ti_201, ti_202, ti_203, ti_204, ti_205, ti_210, ti_255, ti_256, ti_400, ti_512, ti_600, ti_601, ti_602, ti_1000, ti_1023, ti_1024, ti_2000, ti_10000, ti_12602, ti_999999, ti_m999999, ti_m1, ti_2000000, ti_3000000, xN_1, xN_4, xN_5, xN_60, xN_61, xN_64, xN_200, xN_800, xN_12000, xN_12602, eq_self, and_self, and_true, true_and, if_true, if_false, decide_true, Nat.reduceLeDiff, xc2_int, xc2_ref, xc2_ra, xc2_null, xc2_long, xc2_none, xisaT_ref, xisaT_ra, xisaT_null, xc1T_int, xc1T_ref, xc1T_ra, xc1T_null, xsum_nil, xsum_int, xsum_ref, xsum_ra, xsum_long, xsum_double, xsum_null, xfl_nil, xfl_int, xfl_ref, xfl_ra, xfl_null, xfl_long, xfl_double, List.length_cons, List.length_nil, xfk, xfv, xak, xan, xcls, xsv', List.getElem?_cons_zero, List.getElem?_cons_succ, List.getD_cons_zero, List.getD_cons_succ, Option.getD_some, Option.isSome_some, if_true, if_pos, xcont, Option.toList_none, Option.toList_some, List.nil_append, List.cons_append]
      have wk : ∀ Q, Wx X 400 417 23 [some (.retAddr 0), some (.ref 0), some (.ref 73), some (.ref 98), some (.int (iI (4 * t))), y5, y6, y7, y8] [] (hp S g) Q = Wx X 400 417 39 [some (.retAddr 0), some (.ref 0), some (.ref 73), some (.ref 98), some (.int (iI (4 * t))), y5, y6, y7, y8] [.int (iI v)] (hp S g) Q := fun Q => by
        rw [w_iload4 (pc' := 25) q417 d417_23 rfl]
        simp (config := { decide := true }) only [w_aload_n0 (pc' := 26) q417 d417_25 rfl, w_slen (pc' := 27) q417 d417_26 rfl, w_iconst (pc' := 28) q417 d417_27 rfl, w_isub (pc' := 29) q417 d417_28 rfl, w_icmp_gt (tg := 2789) (pc' := 32) q417 d417_29 (by decide) rfl, w_aload_n0 (pc' := 33) q417 d417_32 rfl, w_iload4 (pc' := 35) q417 d417_33 rfl, w_sld (pc' := 36) q417 d417_35 rfl, w_bipush (z' := (63)) (pc' := 38) q417 d417_36 rfl (by decide), w_iand (pc' := 39) q417 d417_38 rfl, gs_off, gs_off0, gs_0off, gs_2, xN_0, xN_2, xN_3, xN_6, xN_7, xN_8, xN_9, xN_10, xN_11, xN_12, xN_13, xN_14, xN_15, xN_16, xN_17, xN_18, xN_19, xN_20, xN_21, xN_22, xN_23, xN_24, xN_25, xN_26, xN_27, xN_28, xN_29, xN_30, xN_31, xN_32, xN_33, xN_34, xN_35, xN_36, xN_37, xN_38, xN_39, xN_40, xN_41, xN_42, xN_43, xN_44, xN_45, xN_46, xN_47, xN_48, xN_49, xN_50, xN_51, xN_52, xN_53, xN_54, xN_55, ti_0, ti_1, ti_2, ti_3, ti_4, ti_5, ti_6, ti_7, ti_8, ti_9, ti_10, ti_16, ti_19, ti_20, ti_29, ti_30, ti_31, ti_32, ti_35, ti_36, ti_38, ti_39, ti_40, ti_41, ti_42, ti_43, ti_44, ti_45, ti_46, ti_47, ti_48, ti_49, ti_50, ti_51, ti_52, ti_53, ti_54, ti_55, ti_56, ti_57, ti_58, ti_59, ti_60, ti_61, ti_62, ti_63, ti_64, ti_65, ti_74, ti_77, ti_126, ti_200, ti_201, ti_202, ti_203, ti_204, ti_205, ti_210, ti_255, ti_256, ti_400, ti_512, ti_600, ti_601, ti_602, ti_1000, ti_1023, ti_1024, ti_2000, ti_10000, ti_12602, ti_999999, ti_m999999, ti_m1, ti_2000000, ti_3000000, xN_1, xN_4, xN_5, xN_60, xN_61, xN_64, xN_200, xN_800, xN_12000, xN_12602, eq_self, and_self, and_true, true_and, if_true, if_false, decide_true, Nat.reduceLeDiff, xc2_int, xc2_ref, xc2_ra, xc2_null, xc2_long, xc2_none, xisaT_ref, xisaT_ra, xisaT_null, xc1T_int, xc1T_ref, xc1T_ra, xc1T_null, xsum_nil, xsum_int, xsum_ref, xsum_ra, xsum_long, xsum_double, xsum_null, xfl_nil, xfl_int, xfl_ref, xfl_ra, xfl_null, xfl_long, xfl_double, List.length_cons, List.length_nil, tL, t_i, hgt, i0, i1, ev, xfk, xfv, xak, xan, xcls, xsv', List.getElem?_cons_zero, List.getElem?_cons_succ, List.getD_cons_zero, List.getD_cons_succ, Option.getD_some, Option.isSome_some, if_true, if_pos, xcont, Option.toList_none, Option.toList_some, List.nil_append, List.cons_append]
      by_cases hv : ti v < 0 ∨ 49 < ti v
      · refine go 2783 (fun Q => ?_) ⟨S, g, P, A, sn, H, y5, y6, y7, y8, hL, ⟨by omega, by omega⟩, LB_mono hB, fun Q => rfl⟩
        rw [wk Q]
        rw [w_tsw q417 d417_39 [252, 308, 321, 334, 347, 403, 471, 527, 607, 675, 731, 787, 843, 899, 943, 987, 1000, 1044, 1107, 1170, 1233, 1289, 1345, 1408, 1471, 1534, 1597, 1660, 1716, 1784, 1840, 1908, 1964, 2020, 2095, 2158, 2214, 2270, 2326, 2339, 2352, 2365, 2378, 2391, 2446, 2501, 2542, 2567, 2647, 2727] 2783 (by decide) (by decide) (by decide), if_pos hv]
      · obtain ⟨k, ek⟩ : ∃ k : Nat, (ti v - 0).toNat = k := ⟨_, rfl⟩
        have hk : k < 50 := by omega
        refine go _ (fun Q => ?_) (l_disp (N := 200 * t) i0 (by omega) hX hL hB (by omega) k hk)
        rw [wk Q]
        rw [w_tsw q417 d417_39 [252, 308, 321, 334, 347, 403, 471, 527, 607, 675, 731, 787, 843, 899, 943, 987, 1000, 1044, 1107, 1170, 1233, 1289, 1345, 1408, 1471, 1534, 1597, 1660, 1716, 1784, 1840, 1908, 1964, 2020, 2095, 2158, 2214, 2270, 2326, 2339, 2352, 2365, 2378, 2391, 2446, 2501, 2542, 2567, 2647, 2727] 2783 (by decide) (by decide) (by decide), if_neg hv, ek]
end
