/-! Texts: the class writes formulas -/
section
variable {X : xX} {S S' S1 S2 : xLm} {g g' g1 g2 G : xGm} {d b m : Nat} {w : xH} {Q : xO → xH → Prop} {L : List Int} {cap cap' cap2 : Nat}
theorem wd_TL {k : Nat} (hk : k < 6) : TL (bcS (10 + 2 * k + 1)) 0 (wdL k) := by
  have hk6 : k = 0 ∨ k = 1 ∨ k = 2 ∨ k = 3 ∨ k = 4 ∨ k = 5 := by omega
  rcases hk6 with rfl | rfl | rfl | rfl | rfl | rfl
  · exact ⟨by decide +kernel, by decide +kernel, by decide +kernel, by decide +kernel, trivial⟩
  · exact ⟨by decide +kernel, by decide +kernel, by decide +kernel, by decide +kernel, trivial⟩
  · exact ⟨by decide +kernel, by decide +kernel, by decide +kernel, by decide +kernel, trivial⟩
  · exact ⟨by decide +kernel, by decide +kernel, by decide +kernel, by decide +kernel, by decide +kernel, by decide +kernel, trivial⟩
  · exact ⟨by decide +kernel, by decide +kernel, by decide +kernel, by decide +kernel, trivial⟩
  · exact ⟨by decide +kernel, by decide +kernel, by decide +kernel, trivial⟩
theorem wd_rng {k : Nat} (hk : k < 6) : (∀ x ∈ wdL k, 0 ≤ x ∧ x ≤ 127) ∧ (wdL k).length ≤ 8 := by
  have hk6 : k = 0 ∨ k = 1 ∨ k = 2 ∨ k = 3 ∨ k = 4 ∨ k = 5 := by omega
  rcases hk6 with rfl | rfl | rfl | rfl | rfl | rfl <;> exact ⟨by decide, by decide⟩
theorem TL_rgv {r : Int → Int} {Ls : List Int} (h : TL r 0 Ls) (hx : ∀ x ∈ Ls, 0 ≤ x ∧ x ≤ 127) : ∀ i : Int, 0 ≤ i → i < Ls.length → 0 ≤ r i ∧ r i ≤ 127 := fun i i1 i2 => by
  have e := TL_mk Ls 0 h i i1 i2
  rw [Int.zero_add] at e
  rw [e]
  exact hx _ (mkat_mem i1 i2)
theorem ref_TL : TL (bcS (22 + 1)) 0 [35, 82, 69, 70] := ⟨by decide +kernel, by decide +kernel, by decide +kernel, by decide +kernel, trivial⟩
theorem Sb_str {k : Nat} {Ls : List Int} {P2 : xLm → xGm → Prop} (hm : m ≤ S.2.1) (hbm : b + 1 < m) (hI : SbI S g b m L cap) (hs : xos k = true) (hk : xob (k + 1) = true) (hlen : xbl (k + 1) = Ls.length) (hT : TL (bcS (k + 1)) 0 Ls) (hx : ∀ x ∈ Ls, 0 ≤ x ∧ x ≤ 127) (h8 : Ls.length ≤ 8) (hL : (L.length : Int) ≤ 640) (h : ∀ S' g', (∀ Q, Cw X (d + 6) 381 [.ref b, .retAddr k] (hp S g) Q = Q (.inl (some (.ref b))) (hp S' g')) → P2 S' g') : SbP S g b m cap (L ++ Ls) P2 := by
  obtain ⟨S1, g1, cap1, x1, x2, x3, x4⟩ := c_appS (X := X) (d := d) hm hbm hI hs hk hlen hT (TL_rgv hT hx) h8 hL
  exact ⟨S1, g1, cap1, x1, x2, x3, h S1 g1 x4⟩
theorem spT_len {s : Int} : (spT s).length ≤ 10 := by
  unfold spT
  have h1 : (if s / 256 % 2 = 1 then [36] else ([] : List Int)).length ≤ 1 := by split <;> simp
  have h2 : (if s / 512 % 2 = 1 then [36] else ([] : List Int)).length ≤ 1 := by split <;> simp
  have h3 := decF_len 6 (s % 256 / 10 + 1)
  have h4 : (dec (s % 256 / 10 + 1)).length ≤ 7 := h3.2
  rw [List.length_append, List.length_append, List.length_append, List.length_cons, List.length_nil]
  omega
theorem txM_spm {s : Int} (h : okS s) : txM (spm s) = spT s := by
  have hr := spm_rng h
  unfold txM
  rw [if_neg (by omega), if_neg (by omega), if_neg (by omega), if_neg (by omega)]
  exact spT_rf h
theorem fmT_1 (x : Int) : fmT [x] = txM x := by
  show txM x ++ [] = _
  rw [List.append_nil]
theorem fmT_cons (x : Int) (L : List Int) : fmT (x :: L) = txM x ++ fmT L := rfl
theorem fmT_app (L M : List Int) : fmT (L ++ M) = fmT L ++ fmT M := List.flatMap_append
/-- a word is written -/
theorem c_tkWrite {x : Int} (hm : m ≤ S.2.1) (hbm : b + 1 < m) (hI : SbI S g b m L cap) (hx : okG x) (hx5 : x % 8 = 5 → x / 8 ≤ 127) (hL : (L.length : Int) ≤ 605) :
    SbP S g b m cap (L ++ fmT (mk1 x)) (fun S' g' => ∀ Q, Cw X (d + 7) 176 [.int (iI x), .ref b] (hp S g) Q = Q (.inl none) (hp S' g')) := by
  obtain ⟨a0, s0⟩ := SbI_s hI
  have hb := okG_big hx
  have hkd := fun w Q => c_kind (X := X) (d := d + 6) (w := w) (Q := Q) hb.1 (show x < 2147483648 by omega)
  have hct := fun w Q => c_content (X := X) (d := d + 6) (w := w) (Q := Q) hb.1 (show x < 2147483648 by omega)
  have u1 : ((1 : Int) - 1).toNat = 0 := rfl
  have u2 : ((2 : Int) - 1).toNat = 1 := rfl
  have u3 : ((3 : Int) - 1).toNat = 2 := rfl
  have u4 : ((4 : Int) - 1).toNat = 3 := rfl
  have u5 : ((5 : Int) - 1).toNat = 4 := rfl
  have u6 : ((6 : Int) - 1).toNat = 5 := rfl
  rcases hx with ⟨e, h1, h2⟩ | ⟨e, h1⟩ | e | ⟨e, h1, h2⟩ | ⟨e, h1, h2, h3⟩ | ⟨e, h1, h2⟩
  · have et : fmT (mk1 x) = dec (x / 8) := by
      unfold mk1
      rw [if_pos e, fmT_1]
      unfold txM
      rw [if_neg (by omega), if_neg (by omega), if_pos (by omega)]
      congr 1
      omega
    rw [et]
    obtain ⟨S1, g1, cap1, x1, x2, x3, x4⟩ := c_appI (X := X) (d := d + 1) (v := x / 8) hm hbm hI (by omega) (by omega)
    refine ⟨S1, g1, cap1, x1, x2, x3, fun Q => ?_⟩
    rw [e] at hkd
    rw [e176]
    simp (config := { decide := true }) only [w_iload_n0 (pc' := 1) q176 d176_0 rfl, w_invs1 (pc' := 4) q176 d176_1 rfl (by decide +kernel) k176_19_99 m171.1, w_tsw q176 d176_4 [44, 56, 67, 93, 103, 116] 131 (by decide) (by decide) (by decide), w_aload_n1 (pc' := 45) q176 d176_44 rfl, w_iload_n0 (pc' := 46) q176 d176_45 rfl, w_invs1 (pc' := 49) q176 d176_46 rfl (by decide +kernel) k176_15_99 m169.1, w_invv1 (ci := 1) (pc' := 52) q176 d176_49 rfl n176_34 k176_34_1 m383.1, w_pop (pc' := 53) q176 d176_52 rfl, w_goto (tg := 131) q176 d176_53 (by decide), w_return q176 d176_131 m176.2.1, gs_off, gs_off0, gs_0off, gs_2, xN_0, xN_2, xN_3, xN_6, xN_7, xN_8, xN_9, xN_10, xN_11, xN_12, xN_13, xN_14, xN_15, xN_16, xN_17, xN_18, xN_19, xN_20, xN_21, xN_22, xN_23, xN_24, xN_25, xN_26, xN_27, xN_28, xN_29, xN_30, xN_31, xN_32, xN_33, xN_34, xN_35, xN_36, xN_37, xN_38, xN_39, xN_40, xN_41, xN_42, xN_43, xN_44, xN_45, xN_46, xN_47, xN_48, xN_49, xN_50, xN_51, xN_52, xN_53, xN_54, xN_55, ti_0, ti_1, ti_2, ti_3, ti_4, ti_5, ti_6, ti_7, ti_8, ti_9, ti_10, ti_16, ti_19, ti_20, ti_29, ti_30, ti_31, ti_32, ti_35, ti_36, ti_38, ti_39, ti_40, ti_41, ti_42, ti_43, ti_44, ti_45, ti_46, ti_47, ti_48, ti_49, ti_50, ti_51, ti_52, ti_53, ti_54, ti_55, ti_56, ti_57, ti_58, ti_59, ti_60, ti_61, ti_62, ti_63, ti_64, ti_65, ti_74, ti_77, ti_126, ti_200, ti_201, ti_202, ti_203, ti_204, ti_205, ti_210, ti_255, ti_256, ti_400, ti_512, ti_600, ti_601, ti_602, ti_1000, ti_1023, ti_1024, ti_2000, ti_10000, ti_12602, ti_999999, ti_m999999, ti_m1, ti_2000000, ti_3000000, xN_1, xN_4, xN_5, xN_60, xN_61, xN_64, xN_200, xN_800, xN_12000, xN_12602, eq_self, and_self, and_true, true_and, if_true, if_false, decide_true, Nat.reduceLeDiff, xc2_int, xc2_ref, xc2_ra, xc2_null, xc2_long, xc2_none, xisaT_ref, xisaT_ra, xisaT_null, xc1T_int, xc1T_ref, xc1T_ra, xc1T_null, xsum_nil, xsum_int, xsum_ref, xsum_ra, xsum_long, xsum_double, xsum_null, xfl_nil, xfl_int, xfl_ref, xfl_ra, xfl_null, xfl_long, xfl_double, List.length_cons, List.length_nil, hkd, hct, u1, or_self, s0, x4, xfk, xfv, xak, xan, xcls, xsv', List.getElem?_cons_zero, List.getElem?_cons_succ, List.getD_cons_zero, List.getD_cons_succ, Option.getD_some, Option.isSome_some, if_true, if_pos, xcont, Option.toList_none, Option.toList_some, List.nil_append, List.cons_append]
  · have et : fmT (mk1 x) = spT (x / 8) := by
      unfold mk1
      rw [if_neg (by omega), if_pos e, fmT_1, txM_spm h1]
    rw [et]
    obtain ⟨S1, g1, cap1, x1, x2, x3, x4⟩ := c_wSpot (X := X) (d := d) hm hbm hI h1 (by omega)
    refine ⟨S1, g1, cap1, x1, x2, x3, fun Q => ?_⟩
    rw [e] at hkd
    rw [e176]
    simp (config := { decide := true }) only [w_iload_n0 (pc' := 1) q176 d176_0 rfl, w_invs1 (pc' := 4) q176 d176_1 rfl (by decide +kernel) k176_19_99 m171.1, w_tsw q176 d176_4 [44, 56, 67, 93, 103, 116] 131 (by decide) (by decide) (by decide), w_iload_n0 (pc' := 57) q176 d176_56 rfl, w_invs1 (pc' := 60) q176 d176_57 rfl (by decide +kernel) k176_15_99 m169.1, w_aload_n1 (pc' := 61) q176 d176_60 rfl, w_invs2 (pc' := 64) q176 d176_61 rfl (by decide +kernel) k176_40_99 m177.1, w_goto (tg := 131) q176 d176_64 (by decide), w_return q176 d176_131 m176.2.1, gs_off, gs_off0, gs_0off, gs_2, xN_0, xN_2, xN_3, xN_6, xN_7, xN_8, xN_9, xN_10, xN_11, xN_12, xN_13, xN_14, xN_15, xN_16, xN_17, xN_18, xN_19, xN_20, xN_21, xN_22, xN_23, xN_24, xN_25, xN_26, xN_27, xN_28, xN_29, xN_30, xN_31, xN_32, xN_33, xN_34, xN_35, xN_36, xN_37, xN_38, xN_39, xN_40, xN_41, xN_42, xN_43, xN_44, xN_45, xN_46, xN_47, xN_48, xN_49, xN_50, xN_51, xN_52, xN_53, xN_54, xN_55, ti_0, ti_1, ti_2, ti_3, ti_4, ti_5, ti_6, ti_7, ti_8, ti_9, ti_10, ti_16, ti_19, ti_20, ti_29, ti_30, ti_31, ti_32, ti_35, ti_36, ti_38, ti_39, ti_40, ti_41, ti_42, ti_43, ti_44, ti_45, ti_46, ti_47, ti_48, ti_49, ti_50, ti_51, ti_52, ti_53, ti_54, ti_55, ti_56, ti_57, ti_58, ti_59, ti_60, ti_61, ti_62, ti_63, ti_64, ti_65, ti_74, ti_77, ti_126, ti_200, ti_201, ti_202, ti_203, ti_204, ti_205, ti_210, ti_255, ti_256, ti_400, ti_512, ti_600, ti_601, ti_602, ti_1000, ti_1023, ti_1024, ti_2000, ti_10000, ti_12602, ti_999999, ti_m999999, ti_m1, ti_2000000, ti_3000000, xN_1, xN_4, xN_5, xN_60, xN_61, xN_64, xN_200, xN_800, xN_12000, xN_12602, eq_self, and_self, and_true, true_and, if_true, if_false, decide_true, Nat.reduceLeDiff, xc2_int, xc2_ref, xc2_ra, xc2_null, xc2_long, xc2_none, xisaT_ref, xisaT_ra, xisaT_null, xc1T_int, xc1T_ref, xc1T_ra, xc1T_null, xsum_nil, xsum_int, xsum_ref, xsum_ra, xsum_long, xsum_double, xsum_null, xfl_nil, xfl_int, xfl_ref, xfl_ra, xfl_null, xfl_long, xfl_double, List.length_cons, List.length_nil, hkd, hct, u2, or_self, s0, x4, xfk, xfv, xak, xan, xcls, xsv', List.getElem?_cons_zero, List.getElem?_cons_succ, List.getD_cons_zero, List.getD_cons_succ, Option.getD_some, Option.isSome_some, if_true, if_pos, xcont, Option.toList_none, Option.toList_some, List.nil_append, List.cons_append]
  · subst e
    have et : fmT (mk1 4) = [35, 82, 69, 70] := by decide
    rw [et]
    refine Sb_str (X := X) (d := d) (k := 22) hm hbm hI (by decide) (by decide) (by decide) ref_TL (by decide) (by decide) (by omega) (fun S1 g1 x4 Q => ?_)
    rw [show (4 : Int) % 8 = 4 by decide] at hkd
    rw [e176]
    simp (config := { decide := true }) only [w_iload_n0 (pc' := 1) q176 d176_0 rfl, w_invs1 (pc' := 4) q176 d176_1 rfl (by decide +kernel) k176_19_99 m171.1, w_tsw q176 d176_4 [44, 56, 67, 93, 103, 116] 131 (by decide) (by decide) (by decide), w_aload_n1 (pc' := 94) q176 d176_93 rfl, w_ldcS (j := 6) (pc' := 96) q176 d176_94 rfl (by decide +kernel) (by decide +kernel), w_invv1 (ci := 1) (pc' := 99) q176 d176_96 rfl n176_55 k176_55_1 m381.1, w_pop (pc' := 100) q176 d176_99 rfl, w_goto (tg := 131) q176 d176_100 (by decide), w_return q176 d176_131 m176.2.1, gs_off, gs_off0, gs_0off, gs_2, xN_0, xN_2, xN_3, xN_6, xN_7, xN_8, xN_9, xN_10, xN_11, xN_12, xN_13, xN_14, xN_15, xN_16, xN_17, xN_18, xN_19, xN_20, xN_21, xN_22, xN_23, xN_24, xN_25, xN_26, xN_27, xN_28, xN_29, xN_30, xN_31, xN_32, xN_33, xN_34, xN_35, xN_36, xN_37, xN_38, xN_39, xN_40, xN_41, xN_42, xN_43, xN_44, xN_45, xN_46, xN_47, xN_48, xN_49, xN_50, xN_51, xN_52, xN_53, xN_54, xN_55, ti_0, ti_1, ti_2, ti_3, ti_4, ti_5, ti_6, ti_7, ti_8, ti_9, ti_10, ti_16, ti_19, ti_20, ti_29, ti_30, ti_31, ti_32, ti_35, ti_36, ti_38, ti_39, ti_40, ti_41, ti_42, ti_43, ti_44, ti_45, ti_46, ti_47, ti_48, ti_49, ti_50, ti_51, ti_52, ti_53, ti_54, ti_55, ti_56, ti_57, ti_58, ti_59, ti_60, ti_61, ti_62, ti_63, ti_64, ti_65, ti_74, ti_77, ti_126, ti_200, ti_201, ti_202, ti_203, ti_204, ti_205, ti_210, ti_255, ti_256, ti_400, ti_512, ti_600, ti_601, ti_602, ti_1000, ti_1023, ti_1024, ti_2000, ti_10000, ti_12602, ti_999999, ti_m999999, ti_m1, ti_2000000, ti_3000000, xN_1, xN_4, xN_5, xN_60, xN_61, xN_64, xN_200, xN_800, xN_12000, xN_12602, eq_self, and_self, and_true, true_and, if_true, if_false, decide_true, Nat.reduceLeDiff, xc2_int, xc2_ref, xc2_ra, xc2_null, xc2_long, xc2_none, xisaT_ref, xisaT_ra, xisaT_null, xc1T_int, xc1T_ref, xc1T_ra, xc1T_null, xsum_nil, xsum_int, xsum_ref, xsum_ra, xsum_long, xsum_double, xsum_null, xfl_nil, xfl_int, xfl_ref, xfl_ra, xfl_null, xfl_long, xfl_double, List.length_cons, List.length_nil, hkd, u4, or_self, s0, x4, xfk, xfv, xak, xan, xcls, xsv', List.getElem?_cons_zero, List.getElem?_cons_succ, List.getD_cons_zero, List.getD_cons_succ, Option.getD_some, Option.isSome_some, if_true, if_pos, xcont, Option.toList_none, Option.toList_some, List.nil_append, List.cons_append]
  · have h2' : x / 8 / 1024 % 1024 = x / 8 / 1024 := by unfold okS at h2; omega
    have et : fmT (mk1 x) = spT (x / 8 % 1024) ++ ([58] ++ spT (x / 8 / 1024)) := by
      unfold mk1
      rw [if_neg (by omega), if_neg (by omega), if_pos e, fmT_cons, fmT_cons, fmT_1, txM_spm h1, txM_spm h2]
      rfl
    have hf := fun w Q => c_firstCorner (X := X) (d := d + 5) (w := w) (Q := Q) hb.1 (show x < 2147483648 by omega)
    have hsd := fun w Q => c_secondCorner (X := X) (d := d + 5) (w := w) (Q := Q) hb.1 (show x < 2147483648 by omega)
    rw [h2'] at hsd
    have hl1 := spT_len (s := x / 8 % 1024)
    rw [et, ← List.append_assoc, ← List.append_assoc]
    refine SbP_bind (c_wSpot (X := X) (d := d) hm hbm hI h1 (by omega)) (fun S1 g1 cap1 X1 m1 I1 k1 => ?_)
    obtain ⟨a1, s1⟩ := SbI_s I1
    have l1 : ((L ++ spT (x / 8 % 1024)).length : Int) ≤ 615 := by rw [List.length_append]; omega
    refine SbP_bind (Sb_one (X := X) (d := d + 1) (P2 := fun S' g' => ∀ Q, Cw X (d + 6) 382 [.ref b, .int (iI 58)] (hp S1 g1) Q = Q (.inl (some (.ref b))) (hp S' g')) m1 hbm I1 (by decide) (by omega) (fun S' g' k => k)) (fun S2 g2 cap2 X2 m2 I2 k2 => ?_)
    have l2 : ((L ++ spT (x / 8 % 1024) ++ [58]).length : Int) ≤ 616 := by rw [List.length_append, List.length_cons, List.length_nil]; omega
    obtain ⟨S3, g3, cap3, x1, x2, x3, x4⟩ := c_wSpot (X := X) (d := d) m2 hbm I2 h2 (by omega)
    refine ⟨S3, g3, cap3, x1, x2, x3, fun Q => ?_⟩
    rw [e] at hkd
    rw [e176]
    simp (config := { decide := true }) only [w_iload_n0 (pc' := 1) q176 d176_0 rfl, w_invs1 (pc' := 4) q176 d176_1 rfl (by decide +kernel) k176_19_99 m171.1, w_tsw q176 d176_4 [44, 56, 67, 93, 103, 116] 131 (by decide) (by decide) (by decide), w_iload_n0 (pc' := 68) q176 d176_67 rfl, w_invs1 (pc' := 71) q176 d176_68 rfl (by decide +kernel) k176_44_99 m173.1, w_aload_n1 (pc' := 72) q176 d176_71 rfl, w_invs2 (pc' := 75) q176 d176_72 rfl (by decide +kernel) k176_40_99 m177.1, w_aload_n1 (pc' := 76) q176 d176_75 rfl, w_bipush (z' := (58)) (pc' := 78) q176 d176_76 rfl (by decide), w_invv1 (ci := 1) (pc' := 81) q176 d176_78 rfl n176_47 k176_47_1 m382.1, w_pop (pc' := 82) q176 d176_81 rfl, w_iload_n0 (pc' := 83) q176 d176_82 rfl, w_invs1 (pc' := 86) q176 d176_83 rfl (by decide +kernel) k176_50_99 m174.1, w_aload_n1 (pc' := 87) q176 d176_86 rfl, w_invs2 (pc' := 90) q176 d176_87 rfl (by decide +kernel) k176_40_99 m177.1, w_goto (tg := 131) q176 d176_90 (by decide), w_return q176 d176_131 m176.2.1, gs_off, gs_off0, gs_0off, gs_2, xN_0, xN_2, xN_3, xN_6, xN_7, xN_8, xN_9, xN_10, xN_11, xN_12, xN_13, xN_14, xN_15, xN_16, xN_17, xN_18, xN_19, xN_20, xN_21, xN_22, xN_23, xN_24, xN_25, xN_26, xN_27, xN_28, xN_29, xN_30, xN_31, xN_32, xN_33, xN_34, xN_35, xN_36, xN_37, xN_38, xN_39, xN_40, xN_41, xN_42, xN_43, xN_44, xN_45, xN_46, xN_47, xN_48, xN_49, xN_50, xN_51, xN_52, xN_53, xN_54, xN_55, ti_0, ti_1, ti_2, ti_3, ti_4, ti_5, ti_6, ti_7, ti_8, ti_9, ti_10, ti_16, ti_19, ti_20, ti_29, ti_30, ti_31, ti_32, ti_35, ti_36, ti_38, ti_39, ti_40, ti_41, ti_42, ti_43, ti_44, ti_45, ti_46, ti_47, ti_48, ti_49, ti_50, ti_51, ti_52, ti_53, ti_54, ti_55, ti_56, ti_57, ti_58, ti_59, ti_60, ti_61, ti_62, ti_63, ti_64, ti_65, ti_74, ti_77, ti_126, ti_200, ti_201, ti_202, ti_203, ti_204, ti_205, ti_210, ti_255, ti_256, ti_400, ti_512, ti_600, ti_601, ti_602, ti_1000, ti_1023, ti_1024, ti_2000, ti_10000, ti_12602, ti_999999, ti_m999999, ti_m1, ti_2000000, ti_3000000, xN_1, xN_4, xN_5, xN_60, xN_61, xN_64, xN_200, xN_800, xN_12000, xN_12602, eq_self, and_self, and_true, true_and, if_true, if_false, decide_true, Nat.reduceLeDiff, xc2_int, xc2_ref, xc2_ra, xc2_null, xc2_long, xc2_none, xisaT_ref, xisaT_ra, xisaT_null, xc1T_int, xc1T_ref, xc1T_ra, xc1T_null, xsum_nil, xsum_int, xsum_ref, xsum_ra, xsum_long, xsum_double, xsum_null, xfl_nil, xfl_int, xfl_ref, xfl_ra, xfl_null, xfl_long, xfl_double, List.length_cons, List.length_nil, hkd, u3, or_self, s0, s1, hf, hsd, k1, k2, x4, xfk, xfv, xak, xan, xcls, xsv', List.getElem?_cons_zero, List.getElem?_cons_succ, List.getD_cons_zero, List.getD_cons_succ, Option.getD_some, Option.isSome_some, if_true, if_pos, xcont, Option.toList_none, Option.toList_some, List.nil_append, List.cons_append]
  · have et : fmT (mk1 x) = [x / 8] := by
      unfold mk1
      rw [if_neg (by omega), if_neg (by omega), if_neg (by omega), if_neg (by omega), if_pos e, fmT_1]
      unfold txM
      rw [if_pos h2]
    have hx5' := hx5 e
    have nc : xnc (x / 8) = x / 8 := by rw [xnc_pos (by omega) (by omega)]; omega
    rw [et]
    refine Sb_one (X := X) (d := d + 1) hm hbm hI (by omega) (by omega) (fun S1 g1 x4 Q => ?_)
    rw [e] at hkd
    rw [e176]
    simp (config := { decide := true }) only [w_iload_n0 (pc' := 1) q176 d176_0 rfl, w_invs1 (pc' := 4) q176 d176_1 rfl (by decide +kernel) k176_19_99 m171.1, w_tsw q176 d176_4 [44, 56, 67, 93, 103, 116] 131 (by decide) (by decide) (by decide), w_aload_n1 (pc' := 104) q176 d176_103 rfl, w_iload_n0 (pc' := 105) q176 d176_104 rfl, w_invs1 (pc' := 108) q176 d176_105 rfl (by decide +kernel) k176_15_99 m169.1, w_i2c (pc' := 109) q176 d176_108 rfl, w_invv1 (ci := 1) (pc' := 112) q176 d176_109 rfl n176_47 k176_47_1 m382.1, w_pop (pc' := 113) q176 d176_112 rfl, w_goto (tg := 131) q176 d176_113 (by decide), w_return q176 d176_131 m176.2.1, gs_off, gs_off0, gs_0off, gs_2, xN_0, xN_2, xN_3, xN_6, xN_7, xN_8, xN_9, xN_10, xN_11, xN_12, xN_13, xN_14, xN_15, xN_16, xN_17, xN_18, xN_19, xN_20, xN_21, xN_22, xN_23, xN_24, xN_25, xN_26, xN_27, xN_28, xN_29, xN_30, xN_31, xN_32, xN_33, xN_34, xN_35, xN_36, xN_37, xN_38, xN_39, xN_40, xN_41, xN_42, xN_43, xN_44, xN_45, xN_46, xN_47, xN_48, xN_49, xN_50, xN_51, xN_52, xN_53, xN_54, xN_55, ti_0, ti_1, ti_2, ti_3, ti_4, ti_5, ti_6, ti_7, ti_8, ti_9, ti_10, ti_16, ti_19, ti_20, ti_29, ti_30, ti_31, ti_32, ti_35, ti_36, ti_38, ti_39, ti_40, ti_41, ti_42, ti_43, ti_44, ti_45, ti_46, ti_47, ti_48, ti_49, ti_50, ti_51, ti_52, ti_53, ti_54, ti_55, ti_56, ti_57, ti_58, ti_59, ti_60, ti_61, ti_62, ti_63, ti_64, ti_65, ti_74, ti_77, ti_126, ti_200, ti_201, ti_202, ti_203, ti_204, ti_205, ti_210, ti_255, ti_256, ti_400, ti_512, ti_600, ti_601, ti_602, ti_1000, ti_1023, ti_1024, ti_2000, ti_10000, ti_12602, ti_999999, ti_m999999, ti_m1, ti_2000000, ti_3000000, xN_1, xN_4, xN_5, xN_60, xN_61, xN_64, xN_200, xN_800, xN_12000, xN_12602, eq_self, and_self, and_true, true_and, if_true, if_false, decide_true, Nat.reduceLeDiff, xc2_int, xc2_ref, xc2_ra, xc2_null, xc2_long, xc2_none, xisaT_ref, xisaT_ra, xisaT_null, xc1T_int, xc1T_ref, xc1T_ra, xc1T_null, xsum_nil, xsum_int, xsum_ref, xsum_ra, xsum_long, xsum_double, xsum_null, xfl_nil, xfl_int, xfl_ref, xfl_ra, xfl_null, xfl_long, xfl_double, List.length_cons, List.length_nil, hkd, hct, u5, or_self, s0, nc, x4, xfk, xfv, xak, xan, xcls, xsv', List.getElem?_cons_zero, List.getElem?_cons_succ, List.getD_cons_zero, List.getD_cons_succ, Option.getD_some, Option.isSome_some, if_true, if_pos, xcont, Option.toList_none, Option.toList_some, List.nil_append, List.cons_append]
  · obtain ⟨k, ek⟩ : ∃ k : Nat, x / 8 = k := ⟨(x / 8).toNat, by omega⟩
    have hk : k < 6 := by omega
    have et : fmT (mk1 x) = wdL k := by
      unfold mk1
      rw [if_neg (by omega), if_neg (by omega), if_neg (by omega), if_neg (by omega), if_neg (by omega), ek]
      have hk6 : k = 0 ∨ k = 1 ∨ k = 2 ∨ k = 3 ∨ k = 4 ∨ k = 5 := by omega
      rcases hk6 with rfl | rfl | rfl | rfl | rfl | rfl <;> decide
    have hw := wd_facts ⟨k, hk⟩
    obtain ⟨w1, w2⟩ := wd_rng hk
    have kw := fun w Q => c_word (X := X) (d := d + 6) (w := w) (Q := Q) hk
    rw [et]
    refine Sb_str (X := X) (d := d) (k := 10 + 2 * k) hm hbm hI hw.1 hw.2.1 hw.2.2.1 (wd_TL hk) w1 w2 (by omega) (fun S1 g1 x4 Q => ?_)
    rw [e] at hkd
    rw [ek] at hct
    rw [e176]
    simp (config := { decide := true }) only [w_iload_n0 (pc' := 1) q176 d176_0 rfl, w_invs1 (pc' := 4) q176 d176_1 rfl (by decide +kernel) k176_19_99 m171.1, w_tsw q176 d176_4 [44, 56, 67, 93, 103, 116] 131 (by decide) (by decide) (by decide), w_aload_n1 (pc' := 117) q176 d176_116 rfl, w_iload_n0 (pc' := 118) q176 d176_117 rfl, w_invs1 (pc' := 121) q176 d176_118 rfl (by decide +kernel) k176_15_99 m169.1, w_invs1 (pc' := 124) q176 d176_121 rfl (by decide +kernel) k176_58_99 m168.1, w_invv1 (ci := 1) (pc' := 127) q176 d176_124 rfl n176_55 k176_55_1 m381.1, w_pop (pc' := 128) q176 d176_127 rfl, w_goto (tg := 131) q176 d176_128 (by decide), w_return q176 d176_131 m176.2.1, gs_off, gs_off0, gs_0off, gs_2, xN_0, xN_2, xN_3, xN_6, xN_7, xN_8, xN_9, xN_10, xN_11, xN_12, xN_13, xN_14, xN_15, xN_16, xN_17, xN_18, xN_19, xN_20, xN_21, xN_22, xN_23, xN_24, xN_25, xN_26, xN_27, xN_28, xN_29, xN_30, xN_31, xN_32, xN_33, xN_34, xN_35, xN_36, xN_37, xN_38, xN_39, xN_40, xN_41, xN_42, xN_43, xN_44, xN_45, xN_46, xN_47, xN_48, xN_49, xN_50, xN_51, xN_52, xN_53, xN_54, xN_55, ti_0, ti_1, ti_2, ti_3, ti_4, ti_5, ti_6, ti_7, ti_8, ti_9, ti_10, ti_16, ti_19, ti_20, ti_29, ti_30, ti_31, ti_32, ti_35, ti_36, ti_38, ti_39, ti_40, ti_41, ti_42, ti_43, ti_44, ti_45, ti_46, ti_47, ti_48, ti_49, ti_50, ti_51, ti_52, ti_53, ti_54, ti_55, ti_56, ti_57, ti_58, ti_59, ti_60, ti_61, ti_62, ti_63, ti_64, ti_65, ti_74, ti_77, ti_126, ti_200, ti_201, ti_202, ti_203, ti_204, ti_205, ti_210, ti_255, ti_256, ti_400, ti_512, ti_600, ti_601, ti_602, ti_1000, ti_1023, ti_1024, ti_2000, ti_10000, ti_12602, ti_999999, ti_m999999, ti_m1, ti_2000000, ti_3000000, xN_1, xN_4, xN_5, xN_60, xN_61, xN_64, xN_200, xN_800, xN_12000, xN_12602, eq_self, and_self, and_true, true_and, if_true, if_false, decide_true, Nat.reduceLeDiff, xc2_int, xc2_ref, xc2_ra, xc2_null, xc2_long, xc2_none, xisaT_ref, xisaT_ra, xisaT_null, xc1T_int, xc1T_ref, xc1T_ra, xc1T_null, xsum_nil, xsum_int, xsum_ref, xsum_ra, xsum_long, xsum_double, xsum_null, xfl_nil, xfl_int, xfl_ref, xfl_ra, xfl_null, xfl_long, xfl_double, List.length_cons, List.length_nil, hkd, hct, u6, or_self, s0, kw, x4, xfk, xfv, xak, xan, xcls, xsv', List.getElem?_cons_zero, List.getElem?_cons_succ, List.getD_cons_zero, List.getD_cons_succ, Option.getD_some, Option.isSome_some, if_true, if_pos, xcont, Option.toList_none, Option.toList_some, List.nil_append, List.cons_append]
theorem txM_len {x : Int} (h : okT x) : (txM x).length ≤ 10 := by
  unfold okT at h
  unfold txM
  split
  · simp
  split
  · unfold fnL
    repeat' split
    all_goals simp
  split
  · have := (decF_len 6 (x - 10000)).2
    show (decF 6 (x - 10000)).length ≤ 10
    omega
  split
  · simp
  · unfold rfX
    have h1 : (if (x - 2000000) / 1000 % 2 = 1 then [36] else ([] : List Int)).length ≤ 1 := by split <;> simp
    have h2 : (if (x - 2000000) / 1000 / 2 = 1 then [36] else ([] : List Int)).length ≤ 1 := by split <;> simp
    have h3 := decF_len 6 (tgt x / 10 + 1)
    have h4 : (dec (tgt x / 10 + 1)).length ≤ 7 := h3.2
    rw [List.length_append, List.length_append, List.length_append, List.length_cons, List.length_nil]
    omega
theorem fmT_len : ∀ (L : List Int), (∀ x ∈ L, okT x) → (fmT L).length ≤ 10 * L.length
  | [], _ => Nat.le_refl _
  | x :: L, h => by
    rw [fmT_cons, List.length_append, List.length_cons]
    have h1 := txM_len (h x List.mem_cons_self)
    have h2 := fmT_len L (fun y hy => h y (List.mem_cons_of_mem _ hy))
    omega
/-- the words of a cell are written -/
theorem l_write {a : Nat} {z n : Int} (hbm : b + 1 < m) (hab : a + 5 < b) (hz : 0 ≤ z ∧ z < 200) (hn : n ≤ 60) : ∀ (Ls : List Int) (p : Int) (S : xLm) (g : xGm) (L : List Int) (cap : Nat), StS S a → m ≤ S.2.1 → SbI S g b m L cap → g (a + 4) z = n → TL (fun q => g (a + 5) (z * 60 + q)) p Ls → p + Ls.length = n → 0 ≤ p → (∀ x ∈ Ls, okG x ∧ (x % 8 = 5 → x / 8 ≤ 127)) → (L.length : Int) + 10 * (mks Ls).length ≤ 601 →
    SbP S g b m cap (L ++ fmT (mks Ls)) (fun S' g' => ∀ Q, Wx X (d + 8) 166 26 [some (.ref a), some (.int (iI z)), some (.ref b), some (.int (iI (z * 60))), some (.int (iI p))] [] (hp S g) Q = Q (.inl none) (hp S' g')) := by
  intro Ls
  induction Ls with
  | nil =>
    intro p S g L cap hS hm hI h4 hT hp0 hp1 hok hl
    obtain ⟨s0, s1, s2, s3, s4, s5⟩ := id hS
    have ep : p = n := by rw [List.length_nil] at hp0; omega
    subst ep
    have tz : ti z = z := ti_eq (by omega) (by omega)
    have tp : ti p = p := ti_eq (by omega) (by omega)
    obtain ⟨z1, z2⟩ := hz
    show SbP S g b m cap (L ++ []) _
    rw [List.append_nil]
    refine ⟨S, g, cap, SbX_refl, hI, hm, fun Q => ?_⟩
    simp (config := { decide := true }) only [w_iload4 (pc' := 28) q166 d166_26 rfl, w_aload_n0 (pc' := 29) q166 d166_28 rfl, w_getV (pc' := 32) q166 d166_29 rfl f166_21, w_iload_n1 (pc' := 33) q166 d166_32 rfl, w_iaload (pc' := 34) q166 d166_33 rfl, w_icmp_ge (tg := 56) (pc' := 37) q166 d166_34 (by decide) rfl, w_return q166 d166_56 m166.2.1, gs_off, gs_off0, gs_0off, gs_2, xN_0, xN_2, xN_3, xN_6, xN_7, xN_8, xN_9, xN_10, xN_11, xN_12, xN_13, xN_14, xN_15, xN_16, xN_17, xN_18, xN_19, xN_20, xN_21, xN_22, xN_23, xN_24, xN_25, xN_26, xN_27, xN_28, xN_29, xN_30, xN_31, xN_32, xN_33, xN_34, xN_35, xN_36, xN_37, xN_38, xN_39, xN_40, xN_41, xN_42, xN_43, xN_44, xN_45, xN_46, xN_47, xN_48, xN_49, xN_50, xN_51, xN_52, xN_53, xN_54, xN_55, ti_0, ti_1, ti_2, ti_3, ti_4, ti_5, ti_6, ti_7, ti_8, ti_9, ti_10, ti_16, ti_19, ti_20, ti_29, ti_30, ti_31, ti_32, ti_35, ti_36, ti_38, ti_39, ti_40, ti_41, ti_42, ti_43, ti_44, ti_45, ti_46, ti_47, ti_48, ti_49, ti_50, ti_51, ti_52, ti_53, ti_54, ti_55, ti_56, ti_57, ti_58, ti_59, ti_60, ti_61, ti_62, ti_63, ti_64, ti_65, ti_74, ti_77, ti_126, ti_200, ti_201, ti_202, ti_203, ti_204, ti_205, ti_210, ti_255, ti_256, ti_400, ti_512, ti_600, ti_601, ti_602, ti_1000, ti_1023, ti_1024, ti_2000, ti_10000, ti_12602, ti_999999, ti_m999999, ti_m1, ti_2000000, ti_3000000, xN_1, xN_4, xN_5, xN_60, xN_61, xN_64, xN_200, xN_800, xN_12000, xN_12602, eq_self, and_self, and_true, true_and, if_true, if_false, decide_true, Nat.reduceLeDiff, xc2_int, xc2_ref, xc2_ra, xc2_null, xc2_long, xc2_none, xisaT_ref, xisaT_ra, xisaT_null, xc1T_int, xc1T_ref, xc1T_ra, xc1T_null, xsum_nil, xsum_int, xsum_ref, xsum_ra, xsum_long, xsum_double, xsum_null, xfl_nil, xfl_int, xfl_ref, xfl_ra, xfl_null, xfl_long, xfl_double, List.length_cons, List.length_nil, s0, s4, tz, z1, z2, h4, tp, Int.le_refl, xfk, xfv, xak, xan, xcls, xsv', List.getElem?_cons_zero, List.getElem?_cons_succ, List.getD_cons_zero, List.getD_cons_succ, Option.getD_some, Option.isSome_some, if_true, if_pos, xcont, Option.toList_none, Option.toList_some, List.nil_append, List.cons_append]
  | cons x Ls ih =>
    intro p S g L cap hS hm hI h4 hT hp0 hp1 hok hl
    obtain ⟨s0, s1, s2, s3, s4, s5⟩ := id hS
    rw [List.length_cons] at hp0
    obtain ⟨hTx, hTr⟩ := hT
    dsimp only at hTx
    have tz : ti z = z := ti_eq (by omega) (by omega)
    have tp : ti p = p := ti_eq (by omega) (by omega)
    have tn : ti n = n := ti_eq (by omega) (by omega)
    have tq : ti (z * 60 + p) = z * 60 + p := ti_eq (by omega) (by omega)
    have q0 : 0 ≤ z * 60 + p := by omega
    have q1 : z * 60 + p < 12000 := by omega
    have np : ¬ n ≤ p := by omega
    rw [mks_cons, List.length_append] at hl
    rw [mks_cons, fmT_app, ← List.append_assoc]
    have hx := hok x List.mem_cons_self
    have hfl := fmT_len (mk1 x) (mk1_okT hx.1)
    refine SbP_bind (c_tkWrite (X := X) (d := d) hm hbm hI hx.1 hx.2 (by omega)) (fun S1 g1 cap1 X1 m1 I1 k1 => ?_)
    obtain ⟨y1, y2, y3, y4, y5⟩ := X1
    have r4 : g1 (a + 4) = g (a + 4) := y3 _ (by omega) (by omega) (by omega)
    have r5 : g1 (a + 5) = g (a + 5) := y3 _ (by omega) (by omega) (by omega)
    obtain ⟨S2, g2, cap2, v1, v2, v3, v4⟩ := ih (p + 1) S1 g1 (L ++ fmT (mk1 x)) cap1 (StS_congr (fun i hi => y1 _ (by omega) (by omega)) hS) m1 I1 (by rw [r4]; exact h4) (by rw [r5]; exact hTr) (by omega) (by omega) (fun y hy => hok y (List.mem_cons_of_mem _ hy)) (by rw [List.length_append]; omega)
    refine ⟨S2, g2, cap2, v1, v2, v3, fun Q => ?_⟩
    obtain ⟨z1, z2⟩ := hz
    rw [← v4 Q, w_iload4 (pc' := 28) q166 d166_26 rfl]
    simp (config := { decide := true }) only [w_aload_n0 (pc' := 29) q166 d166_28 rfl, w_getV (pc' := 32) q166 d166_29 rfl f166_21, w_iload_n1 (pc' := 33) q166 d166_32 rfl, w_iaload (pc' := 34) q166 d166_33 rfl, w_icmp_ge (tg := 56) (pc' := 37) q166 d166_34 (by decide) rfl, w_aload_n0 (pc' := 38) q166 d166_37 rfl, w_getV (pc' := 41) q166 d166_38 rfl f166_24, w_iload_n3 (pc' := 42) q166 d166_41 rfl, w_iload4 (pc' := 44) q166 d166_42 rfl, w_iadd (pc' := 45) q166 d166_44 rfl, w_iaload (pc' := 46) q166 d166_45 rfl, w_aload_n2 (pc' := 47) q166 d166_46 rfl, w_invs2 (pc' := 50) q166 d166_47 rfl (by decide +kernel) k166_87_99 m176.1, w_iinc4 (z := (1)) (pc' := 53) q166 d166_50 rfl, w_goto (tg := 26) q166 d166_53 (by decide), gs_off, gs_off0, gs_0off, gs_2, xN_0, xN_2, xN_3, xN_6, xN_7, xN_8, xN_9, xN_10, xN_11, xN_12, xN_13, xN_14, xN_15, xN_16, xN_17, xN_18, xN_19, xN_20, xN_21, xN_22, xN_23, xN_24, xN_25, xN_26, xN_27, xN_28, xN_29, xN_30, xN_31, xN_32, xN_33, xN_34, xN_35, xN_36, xN_37, xN_38, xN_39, xN_40, xN_41, xN_42, xN_43, xN_44, xN_45, xN_46, xN_47, xN_48, xN_49, xN_50, xN_51, xN_52, xN_53, xN_54, xN_55, ti_0, ti_1, ti_2, ti_3, ti_4, ti_5, ti_6, ti_7, ti_8, ti_9, ti_10, ti_16, ti_19, ti_20, ti_29, ti_30, ti_31, ti_32, ti_35, ti_36, ti_38, ti_39, ti_40, ti_41, ti_42, ti_43, ti_44, ti_45, ti_46, ti_47, ti_48, ti_49, ti_50, ti_51, ti_52, ti_53, ti_54, ti_55, ti_56, ti_57, ti_58, ti_59, ti_60, ti_61, ti_62, ti_63, ti_64, ti_65, ti_74, ti_77, ti_126, ti_200, ti_201, ti_202, ti_203, ti_204, ti_205, ti_210, ti_255, ti_256, ti_400, ti_512, ti_600, ti_601, ti_602, ti_1000, ti_1023, ti_1024, ti_2000, ti_10000, ti_12602, ti_999999, ti_m999999, ti_m1, ti_2000000, ti_3000000, xN_1, xN_4, xN_5, xN_60, xN_61, xN_64, xN_200, xN_800, xN_12000, xN_12602, eq_self, and_self, and_true, true_and, if_true, if_false, decide_true, Nat.reduceLeDiff, xc2_int, xc2_ref, xc2_ra, xc2_null, xc2_long, xc2_none, xisaT_ref, xisaT_ra, xisaT_null, xc1T_int, xc1T_ref, xc1T_ra, xc1T_null, xsum_nil, xsum_int, xsum_ref, xsum_ra, xsum_long, xsum_double, xsum_null, xfl_nil, xfl_int, xfl_ref, xfl_ra, xfl_null, xfl_long, xfl_double, List.length_cons, List.length_nil, s0, s4, s5, tz, z1, z2, h4, tp, tn, np, tq, q0, q1, hTx, k1, xfk, xfv, xak, xan, xcls, xsv', List.getElem?_cons_zero, List.getElem?_cons_succ, List.getD_cons_zero, List.getD_cons_succ, Option.getD_some, Option.isSome_some, if_true, if_pos, xcont, Option.toList_none, Option.toList_some, List.nil_append, List.cons_append]
end
