/-! Texts: spots, words of a formula, formulas -/
section
variable {X : xX} {S S' S1 S2 : xLm} {g g' g1 g2 G : xGm} {d b m : Nat} {w : xH} {Q : xO → xH → Prop} {L : List Int} {cap cap' cap2 : Nat}
/-- what a call that appends does -/
def SbP (S : xLm) (g : xGm) (b m cap : Nat) (L : List Int) (P : xLm → xGm → Prop) : Prop := ∃ S' g' cap', SbX S S' g g' b m cap cap' ∧ SbI S' g' b m L cap' ∧ m ≤ S'.2.1 ∧ P S' g'
theorem SbP_bind {L2 : List Int} {P P2 : xLm → xGm → Prop} (h : SbP S g b m cap L P) (h2 : ∀ S1 g1 cap1, SbX S S1 g g1 b m cap cap1 → m ≤ S1.2.1 → SbI S1 g1 b m L cap1 → P S1 g1 → SbP S1 g1 b m cap1 L2 P2) : SbP S g b m cap L2 P2 := by
  obtain ⟨S1, g1, cap1, x1, x2, x3, x4⟩ := h
  obtain ⟨S2, g2, cap2, y1, y2, y3, y4⟩ := h2 S1 g1 cap1 x1 x3 x2 x4
  exact ⟨S2, g2, cap2, SbX_trans x1 y1, y2, y3, y4⟩
theorem SbI_s (hI : SbI S g b m L cap) : ∃ a : Nat, S.1 b = .inr (1, [some (.ref a), none, none, none]) := by obtain ⟨a, s0, -⟩ := hI; exact ⟨a, s0⟩
theorem Sb_one {x : Int} {P2 : xLm → xGm → Prop} (hm : m ≤ S.2.1) (hbm : b + 1 < m) (hI : SbI S g b m L cap) (hx : 0 ≤ x ∧ x ≤ 127) (hL : (L.length : Int) ≤ 640) (h : ∀ S' g', (∀ Q, Cw X (d + 5) 382 [.ref b, .int (iI x)] (hp S g) Q = Q (.inl (some (.ref b))) (hp S' g')) → P2 S' g') : SbP S g b m cap (L ++ [x]) P2 := by
  obtain ⟨S1, g1, cap1, x1, x2, x3, x4⟩ := c_app1 (X := X) (d := d) hm hbm hI hx hL
  exact ⟨S1, g1, cap1, x1, x2, x3, h S1 g1 x4⟩
/-- the text of a spot -/
def spT (s : Int) : List Int := (if s / 256 % 2 = 1 then [36] else []) ++ ([65 + s % 256 % 10] ++ ((if s / 512 % 2 = 1 then [36] else []) ++ dec (s % 256 / 10 + 1)))
theorem spT_rf {s : Int} (h : okS s) : rfX (spm s) = spT s := by
  have ht := tgt_spm h
  obtain ⟨h1, h2, h3⟩ := h
  unfold clp at ht
  rw [if_pos h3] at ht
  unfold rfX spT
  rw [ht]
  unfold spm
  by_cases e1 : s / 256 % 2 = 1 <;> by_cases e2 : s / 512 % 2 = 1 <;> simp only [e1, e2, if_true, if_false]
  · rw [if_pos (by omega), if_pos (by omega)]
  · rw [if_pos (by omega), if_neg (by omega)]
  · rw [if_neg (by omega), if_pos (by omega)]
  · rw [if_neg (by omega), if_neg (by omega)]
theorem c_wSpot {s : Int} (hm : m ≤ S.2.1) (hbm : b + 1 < m) (hI : SbI S g b m L cap) (hs : okS s) (hL : (L.length : Int) ≤ 630) :
    SbP S g b m cap (L ++ spT s) (fun S' g' => ∀ Q, Cw X (d + 6) 177 [.int (iI s), .ref b] (hp S g) Q = Q (.inl none) (hp S' g')) := by
  obtain ⟨s1, s2, s3⟩ := hs
  obtain ⟨c, ec⟩ : ∃ c, s % 256 = c := ⟨_, rfl⟩
  have hcell : ∀ w Q, Cw X (d + 5) 172 [.int (iI s)] w Q = Q (.inl (some (.int (iI c)))) w := fun w Q => by
    rw [c_cell s1 (by omega), if_pos s3, ec]
  rw [ec] at s3
  have c0 : 0 ≤ c := by omega
  have x5 := xand_256 s1 s2
  have x6 := xand_512 s1 s2
  have dv := xdiv_eq c0 (show c < 2147483648 by omega) (show (0 : Int) < 10 by decide) (show (10 : Int) < 2147483648 by decide)
  have rv := xrem_eq c0 (show c < 2147483648 by omega) (show (0 : Int) < 10 by decide) (show (10 : Int) < 2147483648 by decide)
  have n10 : ¬ (10 : Int) = 0 := by decide
  have nc : xnc (65 + c % 10) = 65 + c % 10 := by rw [xnc_pos (by omega) (by omega)]; omega
  have hq1 : (if s / 256 % 2 = 1 then [36] else ([] : List Int)).length ≤ 1 := by split <;> simp
  have hq2 : (if s / 512 % 2 = 1 then [36] else ([] : List Int)).length ≤ 1 := by split <;> simp
  have D1 : SbP S g b m cap (L ++ (if s / 256 % 2 = 1 then [36] else [])) (fun S' g' => ∀ Q, Cw X (d + 6) 177 [.int (iI s), .ref b] (hp S g) Q = Wx X (d + 6) 177 20 [some (.int (iI s)), some (.ref b), some (.int (iI c))] [] (hp S' g') Q) := by
    obtain ⟨a0, s0⟩ := SbI_s hI
    by_cases e : s / 256 % 2 = 1
    · have e' : ¬ s / 256 % 2 = 0 := by omega
      rw [if_pos e]
      refine Sb_one (X := X) (d := d) hm hbm hI (by decide) (by omega) (fun S' g' k Q => ?_)
      rw [e177]
      simp (config := { decide := true }) only [w_iload_n0 (pc' := 1) q177 d177_0 rfl, w_invs1 (pc' := 4) q177 d177_1 rfl (by decide +kernel) k177_62_99 m172.1, w_istore_n2 (pc' := 5) q177 d177_4 rfl, w_iload_n0 (pc' := 6) q177 d177_5 rfl, w_sipush (z' := (256)) (pc' := 9) q177 d177_6 rfl (by decide), w_iand (pc' := 10) q177 d177_9 rfl, w_if_eq (tg := 20) (pc' := 13) q177 d177_10 (by decide) rfl, w_aload_n1 (pc' := 14) q177 d177_13 rfl, w_bipush (z' := (36)) (pc' := 16) q177 d177_14 rfl (by decide), w_invv1 (ci := 1) (pc' := 19) q177 d177_16 rfl n177_47 k177_47_1 m382.1, w_pop (pc' := 20) q177 d177_19 rfl, gs_off, gs_off0, gs_0off, gs_2, xN_0, xN_2, xN_3, xN_6, xN_7, xN_8, xN_9, xN_10, xN_11, xN_12, xN_13, xN_14, xN_15, xN_16, xN_17, xN_18, xN_19, xN_20, xN_21, xN_22, xN_23, xN_24, xN_25, xN_26, xN_27, xN_28, xN_29, xN_30, xN_31, xN_32, xN_33, xN_34, xN_35, xN_36, xN_37, xN_38, xN_39, xN_40, xN_41, xN_42, xN_43, xN_44, xN_45, xN_46, xN_47, xN_48, xN_49, xN_50, xN_51, xN_52, xN_53, xN_54, xN_55, ti_0, ti_1, ti_2, ti_3, ti_4, ti_5, ti_6, ti_7, ti_8, ti_9, ti_10, ti_16, ti_19, ti_20, ti_29, ti_30, ti_31, ti_32, ti_35, ti_36, ti_38, ti_39, ti_40, ti_41, ti_42, ti_43, ti_44, ti_45, ti_46, ti_47, ti_48, ti_49, ti_50, ti_51, ti_52, ti_53, ti_54, ti_55, ti_56, ti_57, ti_58, ti_59, ti_60, ti_61, ti_62, ti_63, ti_64, ti_65, ti_74, ti_77, ti_126, ti_200, ti_201, ti_202, ti_203, ti_204, ti_205, ti_210, ti_255, ti_256, ti_400, ti_512, ti_600, ti_601, ti_602, ti_1000, ti_1023, ti_1024, ti_2000, ti_10000, ti_12602, ti_999999, ti_m999999, ti_m1, ti_2000000, ti_3000000, xN_1, xN_4, xN_5, xN_60, xN_61, xN_64, xN_200, xN_800, xN_12000, xN_12602, eq_self, and_self, and_true, true_and, if_true, if_false, decide_true, Nat.reduceLeDiff, xc2_int, xc2_ref, xc2_ra, xc2_null, xc2_long, xc2_none, xisaT_ref, xisaT_ra, xisaT_null, xc1T_int, xc1T_ref, xc1T_ra, xc1T_null, xsum_nil, xsum_int, xsum_ref, xsum_ra, xsum_long, xsum_double, xsum_null, xfl_nil, xfl_int, xfl_ref, xfl_ra, xfl_null, xfl_long, xfl_double, List.length_cons, List.length_nil, hcell, x5, e', ti_0, s0, k, xfk, xfv, xak, xan, xcls, xsv', List.getElem?_cons_zero, List.getElem?_cons_succ, List.getD_cons_zero, List.getD_cons_succ, Option.getD_some, Option.isSome_some, if_true, if_pos, xcont, Option.toList_none, Option.toList_some, List.nil_append, List.cons_append]
    · have e' : s / 256 % 2 = 0 := by omega
      rw [if_neg e, List.append_nil]
      refine ⟨S, g, cap, SbX_refl, hI, hm, fun Q => ?_⟩
      rw [e177]
      simp (config := { decide := true }) only [w_iload_n0 (pc' := 1) q177 d177_0 rfl, w_invs1 (pc' := 4) q177 d177_1 rfl (by decide +kernel) k177_62_99 m172.1, w_istore_n2 (pc' := 5) q177 d177_4 rfl, w_iload_n0 (pc' := 6) q177 d177_5 rfl, w_sipush (z' := (256)) (pc' := 9) q177 d177_6 rfl (by decide), w_iand (pc' := 10) q177 d177_9 rfl, w_if_eq (tg := 20) (pc' := 13) q177 d177_10 (by decide) rfl, w_aload_n1 (pc' := 14) q177 d177_13 rfl, w_bipush (z' := (36)) (pc' := 16) q177 d177_14 rfl (by decide), w_invv1 (ci := 1) (pc' := 19) q177 d177_16 rfl n177_47 k177_47_1 m382.1, w_pop (pc' := 20) q177 d177_19 rfl, gs_off, gs_off0, gs_0off, gs_2, xN_0, xN_2, xN_3, xN_6, xN_7, xN_8, xN_9, xN_10, xN_11, xN_12, xN_13, xN_14, xN_15, xN_16, xN_17, xN_18, xN_19, xN_20, xN_21, xN_22, xN_23, xN_24, xN_25, xN_26, xN_27, xN_28, xN_29, xN_30, xN_31, xN_32, xN_33, xN_34, xN_35, xN_36, xN_37, xN_38, xN_39, xN_40, xN_41, xN_42, xN_43, xN_44, xN_45, xN_46, xN_47, xN_48, xN_49, xN_50, xN_51, xN_52, xN_53, xN_54, xN_55, ti_0, ti_1, ti_2, ti_3, ti_4, ti_5, ti_6, ti_7, ti_8, ti_9, ti_10, ti_16, ti_19, ti_20, ti_29, ti_30, ti_31, ti_32, ti_35, ti_36, ti_38, ti_39, ti_40, ti_41, ti_42, ti_43, ti_44, ti_45, ti_46, ti_47, ti_48, ti_49, ti_50, ti_51, ti_52, ti_53, ti_54, ti_55, ti_56, ti_57, ti_58, ti_59, ti_60, ti_61, ti_62, ti_63, ti_64, ti_65, ti_74, ti_77, ti_126, ti_200, ti_201, ti_202, ti_203, ti_204, ti_205, ti_210, ti_255, ti_256, ti_400, ti_512, ti_600, ti_601, ti_602, ti_1000, ti_1023, ti_1024, ti_2000, ti_10000, ti_12602, ti_999999, ti_m999999, ti_m1, ti_2000000, ti_3000000, xN_1, xN_4, xN_5, xN_60, xN_61, xN_64, xN_200, xN_800, xN_12000, xN_12602, eq_self, and_self, and_true, true_and, if_true, if_false, decide_true, Nat.reduceLeDiff, xc2_int, xc2_ref, xc2_ra, xc2_null, xc2_long, xc2_none, xisaT_ref, xisaT_ra, xisaT_null, xc1T_int, xc1T_ref, xc1T_ra, xc1T_null, xsum_nil, xsum_int, xsum_ref, xsum_ra, xsum_long, xsum_double, xsum_null, xfl_nil, xfl_int, xfl_ref, xfl_ra, xfl_null, xfl_long, xfl_double, List.length_cons, List.length_nil, hcell, x5, e', ti_0, s0, xfk, xfv, xak, xan, xcls, xsv', List.getElem?_cons_zero, List.getElem?_cons_succ, List.getD_cons_zero, List.getD_cons_succ, Option.getD_some, Option.isSome_some, if_true, if_pos, xcont, Option.toList_none, Option.toList_some, List.nil_append, List.cons_append]
  refine SbP_bind D1 (fun S1 g1 cap1 X1 m1 I1 k1 => ?_)
  obtain ⟨a1, s11⟩ := SbI_s I1
  have l1 : ((L ++ (if s / 256 % 2 = 1 then [36] else [])).length : Int) ≤ 631 := by
    rw [List.length_append]
    omega
  have D2 : SbP S1 g1 b m cap1 (L ++ (if s / 256 % 2 = 1 then [36] else []) ++ [65 + c % 10]) (fun S' g' => ∀ Q, Cw X (d + 6) 177 [.int (iI s), .ref b] (hp S g) Q = Wx X (d + 6) 177 33 [some (.int (iI s)), some (.ref b), some (.int (iI c))] [] (hp S' g') Q) := by
    refine Sb_one (X := X) (d := d) m1 hbm I1 (by omega) (by omega) (fun S' g' k Q => ?_)
    rw [k1 Q]
    simp (config := { decide := true }) only [w_aload_n1 (pc' := 21) q177 d177_20 rfl, w_bipush (z' := (65)) (pc' := 23) q177 d177_21 rfl (by decide), w_iload_n2 (pc' := 24) q177 d177_23 rfl, w_bipush (z' := (10)) (pc' := 26) q177 d177_24 rfl (by decide), w_irem (pc' := 27) q177 d177_26 rfl, w_iadd (pc' := 28) q177 d177_27 rfl, w_i2c (pc' := 29) q177 d177_28 rfl, w_invv1 (ci := 1) (pc' := 32) q177 d177_29 rfl n177_47 k177_47_1 m382.1, w_pop (pc' := 33) q177 d177_32 rfl, gs_off, gs_off0, gs_0off, gs_2, xN_0, xN_2, xN_3, xN_6, xN_7, xN_8, xN_9, xN_10, xN_11, xN_12, xN_13, xN_14, xN_15, xN_16, xN_17, xN_18, xN_19, xN_20, xN_21, xN_22, xN_23, xN_24, xN_25, xN_26, xN_27, xN_28, xN_29, xN_30, xN_31, xN_32, xN_33, xN_34, xN_35, xN_36, xN_37, xN_38, xN_39, xN_40, xN_41, xN_42, xN_43, xN_44, xN_45, xN_46, xN_47, xN_48, xN_49, xN_50, xN_51, xN_52, xN_53, xN_54, xN_55, ti_0, ti_1, ti_2, ti_3, ti_4, ti_5, ti_6, ti_7, ti_8, ti_9, ti_10, ti_16, ti_19, ti_20, ti_29, ti_30, ti_31, ti_32, ti_35, ti_36, ti_38, ti_39, ti_40, ti_41, ti_42, ti_43, ti_44, ti_45, ti_46, ti_47, ti_48, ti_49, ti_50, ti_51, ti_52, ti_53, ti_54, ti_55, ti_56, ti_57, ti_58, ti_59, ti_60, ti_61, ti_62, ti_63, ti_64, ti_65, ti_74, ti_77, ti_126, ti_200, ti_201, ti_202, ti_203, ti_204, ti_205, ti_210, ti_255, ti_256, ti_400, ti_512, ti_600, ti_601, ti_602, ti_1000, ti_1023, ti_1024, ti_2000, ti_10000, ti_12602, ti_999999, ti_m999999, ti_m1, ti_2000000, ti_3000000, xN_1, xN_4, xN_5, xN_60, xN_61, xN_64, xN_200, xN_800, xN_12000, xN_12602, eq_self, and_self, and_true, true_and, if_true, if_false, decide_true, Nat.reduceLeDiff, xc2_int, xc2_ref, xc2_ra, xc2_null, xc2_long, xc2_none, xisaT_ref, xisaT_ra, xisaT_null, xc1T_int, xc1T_ref, xc1T_ra, xc1T_null, xsum_nil, xsum_int, xsum_ref, xsum_ra, xsum_long, xsum_double, xsum_null, xfl_nil, xfl_int, xfl_ref, xfl_ra, xfl_null, xfl_long, xfl_double, List.length_cons, List.length_nil, rv, n10, nc, s11, k, xfk, xfv, xak, xan, xcls, xsv', List.getElem?_cons_zero, List.getElem?_cons_succ, List.getD_cons_zero, List.getD_cons_succ, Option.getD_some, Option.isSome_some, if_true, if_pos, xcont, Option.toList_none, Option.toList_some, List.nil_append, List.cons_append]
  refine SbP_bind D2 (fun S2 g2 cap2 X2 m2 I2 k2 => ?_)
  obtain ⟨a2, s22⟩ := SbI_s I2
  have l2 : ((L ++ (if s / 256 % 2 = 1 then [36] else []) ++ [65 + c % 10]).length : Int) ≤ 632 := by
    rw [List.length_append, List.length_cons, List.length_nil]
    omega
  have D3 : SbP S2 g2 b m cap2 (L ++ (if s / 256 % 2 = 1 then [36] else []) ++ [65 + c % 10] ++ (if s / 512 % 2 = 1 then [36] else [])) (fun S' g' => ∀ Q, Cw X (d + 6) 177 [.int (iI s), .ref b] (hp S g) Q = Wx X (d + 6) 177 48 [some (.int (iI s)), some (.ref b), some (.int (iI c))] [] (hp S' g') Q) := by
    by_cases e : s / 512 % 2 = 1
    · have e' : ¬ s / 512 % 2 = 0 := by omega
      rw [if_pos e]
      refine Sb_one (X := X) (d := d) m2 hbm I2 (by decide) (by omega) (fun S' g' k Q => ?_)
      rw [k2 Q]
      simp (config := { decide := true }) only [w_iload_n0 (pc' := 34) q177 d177_33 rfl, w_sipush (z' := (512)) (pc' := 37) q177 d177_34 rfl (by decide), w_iand (pc' := 38) q177 d177_37 rfl, w_if_eq (tg := 48) (pc' := 41) q177 d177_38 (by decide) rfl, w_aload_n1 (pc' := 42) q177 d177_41 rfl, w_bipush (z' := (36)) (pc' := 44) q177 d177_42 rfl (by decide), w_invv1 (ci := 1) (pc' := 47) q177 d177_44 rfl n177_47 k177_47_1 m382.1, w_pop (pc' := 48) q177 d177_47 rfl, gs_off, gs_off0, gs_0off, gs_2, xN_0, xN_2, xN_3, xN_6, xN_7, xN_8, xN_9, xN_10, xN_11, xN_12, xN_13, xN_14, xN_15, xN_16, xN_17, xN_18, xN_19, xN_20, xN_21, xN_22, xN_23, xN_24, xN_25, xN_26, xN_27, xN_28, xN_29, xN_30, xN_31, xN_32, xN_33, xN_34, xN_35, xN_36, xN_37, xN_38, xN_39, xN_40, xN_41, xN_42, xN_43, xN_44, xN_45, xN_46, xN_47, xN_48, xN_49, xN_50, xN_51, xN_52, xN_53, xN_54, xN_55, ti_0, ti_1, ti_2, ti_3, ti_4, ti_5, ti_6, ti_7, ti_8, ti_9, ti_10, ti_16, ti_19, ti_20, ti_29, ti_30, ti_31, ti_32, ti_35, ti_36, ti_38, ti_39, ti_40, ti_41, ti_42, ti_43, ti_44, ti_45, ti_46, ti_47, ti_48, ti_49, ti_50, ti_51, ti_52, ti_53, ti_54, ti_55, ti_56, ti_57, ti_58, ti_59, ti_60, ti_61, ti_62, ti_63, ti_64, ti_65, ti_74, ti_77, ti_126, ti_200, ti_201, ti_202, ti_203, ti_204, ti_205, ti_210, ti_255, ti_256, ti_400, ti_512, ti_600, ti_601, ti_602, ti_1000, ti_1023, ti_1024, ti_2000, ti_10000, ti_12602, ti_999999, ti_m999999, ti_m1, ti_2000000, ti_3000000, xN_1, xN_4, xN_5, xN_60, xN_61, xN_64, xN_200, xN_800, xN_12000, xN_12602, eq_self, and_self, and_true, true_and, if_true, if_false, decide_true, Nat.reduceLeDiff, xc2_int, xc2_ref, xc2_ra, xc2_null, xc2_long, xc2_none, xisaT_ref, xisaT_ra, xisaT_null, xc1T_int, xc1T_ref, xc1T_ra, xc1T_null, xsum_nil, xsum_int, xsum_ref, xsum_ra, xsum_long, xsum_double, xsum_null, xfl_nil, xfl_int, xfl_ref, xfl_ra, xfl_null, xfl_long, xfl_double, List.length_cons, List.length_nil, x6, e', ti_0, s22, k, xfk, xfv, xak, xan, xcls, xsv', List.getElem?_cons_zero, List.getElem?_cons_succ, List.getD_cons_zero, List.getD_cons_succ, Option.getD_some, Option.isSome_some, if_true, if_pos, xcont, Option.toList_none, Option.toList_some, List.nil_append, List.cons_append]
    · have e' : s / 512 % 2 = 0 := by omega
      rw [if_neg e, List.append_nil]
      refine ⟨S2, g2, cap2, SbX_refl, I2, m2, fun Q => ?_⟩
      rw [k2 Q]
      simp (config := { decide := true }) only [w_iload_n0 (pc' := 34) q177 d177_33 rfl, w_sipush (z' := (512)) (pc' := 37) q177 d177_34 rfl (by decide), w_iand (pc' := 38) q177 d177_37 rfl, w_if_eq (tg := 48) (pc' := 41) q177 d177_38 (by decide) rfl, w_aload_n1 (pc' := 42) q177 d177_41 rfl, w_bipush (z' := (36)) (pc' := 44) q177 d177_42 rfl (by decide), w_invv1 (ci := 1) (pc' := 47) q177 d177_44 rfl n177_47 k177_47_1 m382.1, w_pop (pc' := 48) q177 d177_47 rfl, gs_off, gs_off0, gs_0off, gs_2, xN_0, xN_2, xN_3, xN_6, xN_7, xN_8, xN_9, xN_10, xN_11, xN_12, xN_13, xN_14, xN_15, xN_16, xN_17, xN_18, xN_19, xN_20, xN_21, xN_22, xN_23, xN_24, xN_25, xN_26, xN_27, xN_28, xN_29, xN_30, xN_31, xN_32, xN_33, xN_34, xN_35, xN_36, xN_37, xN_38, xN_39, xN_40, xN_41, xN_42, xN_43, xN_44, xN_45, xN_46, xN_47, xN_48, xN_49, xN_50, xN_51, xN_52, xN_53, xN_54, xN_55, ti_0, ti_1, ti_2, ti_3, ti_4, ti_5, ti_6, ti_7, ti_8, ti_9, ti_10, ti_16, ti_19, ti_20, ti_29, ti_30, ti_31, ti_32, ti_35, ti_36, ti_38, ti_39, ti_40, ti_41, ti_42, ti_43, ti_44, ti_45, ti_46, ti_47, ti_48, ti_49, ti_50, ti_51, ti_52, ti_53, ti_54, ti_55, ti_56, ti_57, ti_58, ti_59, ti_60, ti_61, ti_62, ti_63, ti_64, ti_65, ti_74, ti_77, ti_126, ti_200, ti_201, ti_202, ti_203, ti_204, ti_205, ti_210, ti_255, ti_256, ti_400, ti_512, ti_600, ti_601, ti_602, ti_1000, ti_1023, ti_1024, ti_2000, ti_10000, ti_12602, ti_999999, ti_m999999, ti_m1, ti_2000000, ti_3000000, xN_1, xN_4, xN_5, xN_60, xN_61, xN_64, xN_200, xN_800, xN_12000, xN_12602, eq_self, and_self, and_true, true_and, if_true, if_false, decide_true, Nat.reduceLeDiff, xc2_int, xc2_ref, xc2_ra, xc2_null, xc2_long, xc2_none, xisaT_ref, xisaT_ra, xisaT_null, xc1T_int, xc1T_ref, xc1T_ra, xc1T_null, xsum_nil, xsum_int, xsum_ref, xsum_ra, xsum_long, xsum_double, xsum_null, xfl_nil, xfl_int, xfl_ref, xfl_ra, xfl_null, xfl_long, xfl_double, List.length_cons, List.length_nil, x6, e', ti_0, s22, xfk, xfv, xak, xan, xcls, xsv', List.getElem?_cons_zero, List.getElem?_cons_succ, List.getD_cons_zero, List.getD_cons_succ, Option.getD_some, Option.isSome_some, if_true, if_pos, xcont, Option.toList_none, Option.toList_some, List.nil_append, List.cons_append]
  refine SbP_bind D3 (fun S3 g3 cap3 X3 m3 I3 k3 => ?_)
  obtain ⟨a3, s33⟩ := SbI_s I3
  have l3 : ((L ++ (if s / 256 % 2 = 1 then [36] else []) ++ [65 + c % 10] ++ (if s / 512 % 2 = 1 then [36] else [])).length : Int) ≤ 633 := by
    rw [List.length_append]
    omega
  obtain ⟨S4, g4, cap4, x1, x2, x3, k4⟩ := c_appI (X := X) (d := d) (v := c / 10 + 1) m3 hbm I3 (by omega) (by omega)
  have eT : L ++ spT s = L ++ (if s / 256 % 2 = 1 then [36] else []) ++ [65 + c % 10] ++ (if s / 512 % 2 = 1 then [36] else []) ++ dec (c / 10 + 1) := by
    unfold spT
    rw [ec]
    simp only [List.append_assoc]
  rw [eT]
  refine ⟨S4, g4, cap4, x1, x2, x3, fun Q => ?_⟩
  rw [k3 Q]
  simp (config := { decide := true }) only [w_aload_n1 (pc' := 49) q177 d177_48 rfl, w_iload_n2 (pc' := 50) q177 d177_49 rfl, w_bipush (z' := (10)) (pc' := 52) q177 d177_50 rfl (by decide), w_idiv (pc' := 53) q177 d177_52 rfl, w_iconst (pc' := 54) q177 d177_53 rfl, w_iadd (pc' := 55) q177 d177_54 rfl, w_invv1 (ci := 1) (pc' := 58) q177 d177_55 rfl n177_34 k177_34_1 m383.1, w_pop (pc' := 59) q177 d177_58 rfl, w_return q177 d177_59 m177.2.1, gs_off, gs_off0, gs_0off, gs_2, xN_0, xN_2, xN_3, xN_6, xN_7, xN_8, xN_9, xN_10, xN_11, xN_12, xN_13, xN_14, xN_15, xN_16, xN_17, xN_18, xN_19, xN_20, xN_21, xN_22, xN_23, xN_24, xN_25, xN_26, xN_27, xN_28, xN_29, xN_30, xN_31, xN_32, xN_33, xN_34, xN_35, xN_36, xN_37, xN_38, xN_39, xN_40, xN_41, xN_42, xN_43, xN_44, xN_45, xN_46, xN_47, xN_48, xN_49, xN_50, xN_51, xN_52, xN_53, xN_54, xN_55, ti_0, ti_1, ti_2, ti_3, ti_4, ti_5, ti_6, ti_7, ti_8, ti_9, ti_10, ti_16, ti_19, ti_20, ti_29, ti_30, ti_31, ti_32, ti_35, ti_36, ti_38, ti_39, ti_40, ti_41, ti_42, ti_43, ti_44, ti_45, ti_46, ti_47, ti_48, ti_49, ti_50, ti_51, ti_52, ti_53, ti_54, ti_55, ti_56, ti_57, ti_58, ti_59, ti_60, ti_61, ti_62, ti_63, ti_64, ti_65, ti_74, ti_77, ti_126, ti_200, ti_201, ti_202, ti_203, ti_204, ti_205, ti_210, ti_255, ti_256, ti_400, ti_512, ti_600, ti_601, ti_602, ti_1000, ti_1023, ti_1024, ti_2000, ti_10000, ti_12602, ti_999999, ti_m999999, ti_m1, ti_2000000, ti_3000000, xN_1, xN_4, xN_5, xN_60, xN_61, xN_64, xN_200, xN_800, xN_12000, xN_12602, eq_self, and_self, and_true, true_and, if_true, if_false, decide_true, Nat.reduceLeDiff, xc2_int, xc2_ref, xc2_ra, xc2_null, xc2_long, xc2_none, xisaT_ref, xisaT_ra, xisaT_null, xc1T_int, xc1T_ref, xc1T_ra, xc1T_null, xsum_nil, xsum_int, xsum_ref, xsum_ra, xsum_long, xsum_double, xsum_null, xfl_nil, xfl_int, xfl_ref, xfl_ra, xfl_null, xfl_long, xfl_double, List.length_cons, List.length_nil, dv, n10, s33, k4, xfk, xfv, xak, xan, xcls, xsv', List.getElem?_cons_zero, List.getElem?_cons_succ, List.getD_cons_zero, List.getD_cons_succ, Option.getD_some, Option.isSome_some, if_true, if_pos, xcont, Option.toList_none, Option.toList_some, List.nil_append, List.cons_append]
theorem Tr_sg : ∀ s r n L v, Tr s r n L v → ∀ t ∈ L, t % 8 = 5 → t / 8 ≤ 127 := by
  refine Tr_ind ?_ ?_ ?_ ?_ ?_ ?_ ?_ ?_ ?_ ?_ ?_
  · intro t ht x hx
    rw [List.mem_singleton] at hx
    subst hx
    unfold okL at ht
    omega
  · intro r n L v _ h x hx
    simp only [List.mem_cons, List.mem_append, List.not_mem_nil, or_false] at hx
    rcases hx with rfl | hx | rfl
    · omega
    · exact h x hx
    · omega
  · intro r n L v _ h x hx
    simp only [List.mem_cons, List.mem_append, List.not_mem_nil, or_false] at hx
    rcases hx with rfl | hx | rfl
    · omega
    · exact h x hx
    · omega
  · intro r n L v r1 n1 L1 v1 r2 n2 L2 v2 _ _ _ h h1 h2 x hx
    simp only [List.mem_cons, List.mem_append, List.not_mem_nil, or_false] at hx
    rcases hx with rfl | hx | rfl | hx | rfl | hx | rfl
    · omega
    · exact h x hx
    · omega
    · exact h1 x hx
    · omega
    · exact h2 x hx
    · omega
  · intro w r n L v hw hw3 _ h x hx
    simp only [List.mem_cons, List.mem_append, List.not_mem_nil, or_false] at hx
    rcases hx with rfl | hx | rfl
    · omega
    · exact h x hx
    · omega
  · intro r n L v _ h _ x hx
    simp only [List.mem_cons] at hx
    rcases hx with rfl | hx
    · omega
    · exact h x hx
  · intro op r n L v r1 n1 L1 v1 ho _ _ h h1 _ _ _ x hx
    simp only [List.mem_cons, List.mem_append] at hx
    rcases hx with hx | rfl | hx
    · exact h x hx
    · unfold isO at ho; omega
    · exact h1 x hx
  · intro r n L v _ h; exact h
  · intro t ht x hx
    rw [List.mem_singleton] at hx
    subst hx
    unfold okR at ht
    omega
  · intro r n L v _ h; exact h
  · intro r n L v r1 n1 L1 v1 _ _ h h1 x hx
    simp only [List.mem_cons, List.mem_append] at hx
    rcases hx with hx | rfl | hx
    · exact h x hx
    · omega
    · exact h1 x hx
end
