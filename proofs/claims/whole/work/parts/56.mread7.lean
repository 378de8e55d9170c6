/-! The model: what follows an operand -/
section
variable {X : xX} {S : xLm} {g : xGm} {d : Nat} {w : xH} {Q : xO → xH → Prop}
theorem MdSlot {g : xGm} {m : Nat} {a f i : Int} (h1 : ¬ i = 35) (h2 : ¬ i = 36) : gM g m a f m i = g m i := gM_o h1 h2 g m a f
theorem gK_o {m : Nat} {n t i : Int} (h : ¬ i = 32) : gK g m n t m i = g m i := by unfold gK; rw [gs_o h, gs_row _ _ _ (by omega)]
theorem gK_r {m j : Nat} {n t : Int} (h : ¬ j = 20) : gK g m n t (m + (j + 1)) = g (m + (j + 1)) := by unfold gK; rw [gs_row _ _ _ (by omega), gs_row _ _ _ (by omega)]
/-- a sign -/
theorem m_sign {m : Nat} {a md c o q cc : Int} {rest : List Fr} {tk : List Int} (hS : MdS S m) (hP : MaR g m md ((o, q, cc) :: rest) tk) (hm : 2 ≤ md ∧ md ≤ 4) (hcc : cc = 0 ∨ cc = 1) (hc : 0 ≤ c ∧ c ≤ 127) (ha : 0 ≤ a) (hn : (mks tk).length < 60) (hst : ((o, q, cc) :: rest).length ≤ 60) :
    RdM S g m (fun Q => Cw X (d + 1) 255 [.ref m, .int (iI c)] (hp S (gM g m a 1)) Q) (if ¬ md = 4 ∧ (((c = 60 ∨ c = 62 ∨ c = 61) ∧ cc = 0) ∨ (c = 43 ∨ c = 45 ∨ c = 42 ∨ c = 47)) then .inr (a + 1, 0, (o, q, if c = 60 ∨ c = 62 ∨ c = 61 then 1 else cc) :: rest, tk ++ [c * 8 + 5]) else .inl a) := by
  have s0 := hS.1
  have s23 := MdS_23 hS
  have hle := MaR_le hP
  simp only [List.length_cons] at hle hst
  obtain ⟨l, el⟩ : ∃ l, g m 40 = l := ⟨_, rfl⟩
  rw [el] at hle
  have tl' : ti l = l := ti_eq (by omega) (by omega)
  have b1 : 0 ≤ l := by omega
  have b2 : l < 64 := by omega
  have e32 := hP.2.2.2.2.1
  have e23 : g (m + 23) l = cc := by have h := hP.2.2.2.2.2.2.2.2.1; rw [el] at h; exact h
  have k0 := fun Q => m_takes (X := X) (d := d) (g := g) (a := a) (f := 1) (b := 0) (Q := Q) hS (.inr rfl) (.inl rfl)
  have k1 := fun Q => m_takes (X := X) (d := d) (g := g) (a := a) (f := 1) (b := 1) (Q := Q) hS (.inr rfl) (.inr rfl)
  rw [if_neg (show ¬ ((1 : Int) = 1 ∧ (0 : Int) = 1) from fun h => absurd h.2 (by decide))] at k0
  rw [if_pos (show ((1 : Int) = 1 ∧ (1 : Int) = 1) from ⟨rfl, rfl⟩)] at k1
  have mk := fun Q => m_marks (X := X) (d := d) (g := g) (a := a + 1) (t := c) (Q := Q) hS e32 (by omega) (by omega)
  have z0 : xnz 0 = 0 := by decide
  have z1 : xnz 1 = 1 := by decide
  obtain ⟨is, eis⟩ : ∃ is : Int, (if c = 60 ∨ c = 62 ∨ c = 61 then 1 else 0) = is := ⟨_, rfl⟩
  obtain ⟨op, eop⟩ : ∃ op : Int, (if c = 43 ∨ c = 45 ∨ c = 42 ∨ c = 47 then 1 else 0) = op := ⟨_, rfl⟩
  have his : is = 0 ∨ is = 1 := by rw [← eis]; split <;> simp
  have hop : op = 0 ∨ op = 1 := by rw [← eop]; split <;> simp
  have hcm := fun Q => m_cmp (X := X) (d := d) (w := hp S (gM g m a 1)) (Q := Q) hc
  have hopp := fun Q => m_op (X := X) (d := d) (w := hp S (gM g m a 1)) (Q := Q) hc
  rw [eis] at hcm
  rw [eop] at hopp
  have h43 := hP.2.2.2.1
  have cond : (¬ md = 4 ∧ (((c = 60 ∨ c = 62 ∨ c = 61) ∧ cc = 0) ∨ (c = 43 ∨ c = 45 ∨ c = 42 ∨ c = 47))) ↔ (¬ md = 4 ∧ ((is = 1 ∧ cc = 0) ∨ op = 1)) := by
    by_cases h1 : c = 60 ∨ c = 62 ∨ c = 61
    · rw [if_pos h1] at eis
      by_cases h2 : c = 43 ∨ c = 45 ∨ c = 42 ∨ c = 47
      · rw [if_pos h2] at eop; subst eis; subst eop; simp [h1, h2]
      · rw [if_neg h2] at eop; subst eis; subst eop; simp [h1, h2]
    · rw [if_neg h1] at eis
      by_cases h2 : c = 43 ∨ c = 45 ∨ c = 42 ∨ c = 47
      · rw [if_pos h2] at eop; subst eis; subst eop; simp [h1, h2]
      · rw [if_neg h2] at eop; subst eis; subst eop; simp [h1, h2]
  have head : ∀ Q, Cw X (d + 1) 255 [.ref m, .int (iI c)] (hp S (gM g m a 1)) Q = Wx X (d + 1) 255 49 [some (.ref m), some (.int (iI c)), some (.int (iI is))] [] (hp S (if ¬ md = 4 ∧ ((is = 1 ∧ cc = 0) ∨ op = 1) then gM (gK g m (mks tk).length c) m (a + 1) 1 else gM g m a 0)) Q := fun Q => by
    rw [e255]
    by_cases h4 : md = 4
    · rw [if_neg (fun h => h.1 h4)]
      rw [if_pos h4] at h43
      simp (config := { decide := true }) only [w_iload_n1 (pc' := 1) q255 d255_0 rfl, w_invs1 (pc' := 4) q255 d255_1 rfl (by decide +kernel) k255_337_99 m256.1, w_istore_n2 (pc' := 5) q255 d255_4 rfl, w_aload_n0 (pc' := 6) q255 d255_5 rfl, w_aload_n0 (pc' := 7) q255 d255_6 rfl, w_getI (pc' := 10) q255 d255_7 rfl f255_316, w_if_ne (tg := 40) (pc' := 13) q255 d255_10 (by decide) rfl, w_iload_n1 (pc' := 14) q255 d255_13 rfl, w_invs1 (pc' := 17) q255 d255_14 rfl (by decide +kernel) k255_340_99 m257.1, w_if_ne (tg := 36) (pc' := 20) q255 d255_17 (by decide) rfl, w_iload_n2 (pc' := 21) q255 d255_20 rfl, w_if_eq (tg := 40) (pc' := 24) q255 d255_21 (by decide) rfl, w_aload_n0 (pc' := 25) q255 d255_24 rfl, w_getV (pc' := 28) q255 d255_25 rfl f255_77, w_aload_n0 (pc' := 29) q255 d255_28 rfl, w_getI (pc' := 32) q255 d255_29 rfl f255_304, w_zaload (pc' := 33) q255 d255_32 rfl, w_baload (pc' := 33) q255 d255_32 rfl, w_baloadS (pc' := 33) q255 d255_32 rfl, w_if_ne (tg := 40) (pc' := 36) q255 d255_33 (by decide) rfl, w_iconst (pc' := 37) q255 d255_36 rfl, w_goto (tg := 41) q255 d255_37 (by decide), w_iconst (pc' := 41) q255 d255_40 rfl, w_invv1 (ci := 11) (pc' := 44) q255 d255_41 rfl n255_291 k255_291_11 m245.1, w_aload_n0 (pc' := 45) q255 d255_44 rfl, w_iload_n1 (pc' := 46) q255 d255_45 rfl, w_invv1 (ci := 11) (pc' := 49) q255 d255_46 rfl n255_298 k255_298_11 m242.1, gs_off, gs_off0, gs_0off, gs_2, xN_0, xN_2, xN_3, xN_6, xN_7, xN_8, xN_9, xN_10, xN_11, xN_12, xN_13, xN_14, xN_15, xN_16, xN_17, xN_18, xN_19, xN_20, xN_21, xN_22, xN_23, xN_24, xN_25, xN_26, xN_27, xN_28, xN_29, xN_30, xN_31, xN_32, xN_33, xN_34, xN_35, xN_36, xN_37, xN_38, xN_39, xN_40, xN_41, xN_42, xN_43, xN_44, xN_45, xN_46, xN_47, xN_48, xN_49, xN_50, xN_51, xN_52, xN_53, xN_54, xN_55, ti_0, ti_1, ti_2, ti_3, ti_4, ti_5, ti_6, ti_7, ti_8, ti_9, ti_10, ti_16, ti_19, ti_20, ti_29, ti_30, ti_31, ti_32, ti_35, ti_36, ti_38, ti_39, ti_40, ti_41, ti_42, ti_43, ti_44, ti_45, ti_46, ti_47, ti_48, ti_49, ti_50, ti_51, ti_52, ti_53, ti_54, ti_55, ti_56, ti_57, ti_58, ti_59, ti_60, ti_61, ti_62, ti_63, ti_64, ti_65, ti_74, ti_77, ti_126, ti_200, ti_201, ti_202, ti_203, ti_204, ti_205, ti_210, ti_255, ti_256, ti_400, ti_512, ti_600, ti_601, ti_602, ti_1000, ti_1023, ti_1024, ti_2000, ti_10000, ti_12602, ti_999999, ti_m999999, ti_m1, ti_2000000, ti_3000000, xN_1, xN_4, xN_5, xN_60, xN_61, xN_64, xN_200, xN_800, xN_12000, xN_12602, eq_self, and_self, and_true, true_and, if_true, if_false, decide_true, Nat.reduceLeDiff, xc2_int, xc2_ref, xc2_ra, xc2_null, xc2_long, xc2_none, xisaT_ref, xisaT_ra, xisaT_null, xc1T_int, xc1T_ref, xc1T_ra, xc1T_null, xsum_nil, xsum_int, xsum_ref, xsum_ra, xsum_long, xsum_double, xsum_null, xfl_nil, xfl_int, xfl_ref, xfl_ra, xfl_null, xfl_long, xfl_double, List.length_cons, List.length_nil, s0, hcm, gM_o (show ¬ (43 : Int) = 35 by decide) (by decide), h43, k0, m_marks0 hS, xfk, xfv, xak, xan, xcls, xsv', List.getElem?_cons_zero, List.getElem?_cons_succ, List.getD_cons_zero, List.getD_cons_succ, Option.getD_some, Option.isSome_some, if_true, if_pos, xcont, Option.toList_none, Option.toList_some, List.nil_append, List.cons_append]
    · rw [if_neg h4] at h43
      rcases hop with e | e <;> rcases his with e' | e' <;> rcases hcc with e'' | e'' <;> subst e <;> subst e' <;> subst e'' <;> simp only [h4, not_false_eq_true, and_self, and_true, or_true, true_or, or_false, false_or, true_and, false_and, and_false, if_true, if_false, show ((0 : Int) = 1) = False from by decide, show ((1 : Int) = 0) = False from by decide] <;>
        simp (config := { decide := true }) only [w_iload_n1 (pc' := 1) q255 d255_0 rfl, w_invs1 (pc' := 4) q255 d255_1 rfl (by decide +kernel) k255_337_99 m256.1, w_istore_n2 (pc' := 5) q255 d255_4 rfl, w_aload_n0 (pc' := 6) q255 d255_5 rfl, w_aload_n0 (pc' := 7) q255 d255_6 rfl, w_getI (pc' := 10) q255 d255_7 rfl f255_316, w_if_ne (tg := 40) (pc' := 13) q255 d255_10 (by decide) rfl, w_iload_n1 (pc' := 14) q255 d255_13 rfl, w_invs1 (pc' := 17) q255 d255_14 rfl (by decide +kernel) k255_340_99 m257.1, w_if_ne (tg := 36) (pc' := 20) q255 d255_17 (by decide) rfl, w_iload_n2 (pc' := 21) q255 d255_20 rfl, w_if_eq (tg := 40) (pc' := 24) q255 d255_21 (by decide) rfl, w_aload_n0 (pc' := 25) q255 d255_24 rfl, w_getV (pc' := 28) q255 d255_25 rfl f255_77, w_aload_n0 (pc' := 29) q255 d255_28 rfl, w_getI (pc' := 32) q255 d255_29 rfl f255_304, w_zaload (pc' := 33) q255 d255_32 rfl, w_baload (pc' := 33) q255 d255_32 rfl, w_baloadS (pc' := 33) q255 d255_32 rfl, w_if_ne (tg := 40) (pc' := 36) q255 d255_33 (by decide) rfl, w_iconst (pc' := 37) q255 d255_36 rfl, w_goto (tg := 41) q255 d255_37 (by decide), w_iconst (pc' := 41) q255 d255_40 rfl, w_invv1 (ci := 11) (pc' := 44) q255 d255_41 rfl n255_291 k255_291_11 m245.1, w_aload_n0 (pc' := 45) q255 d255_44 rfl, w_iload_n1 (pc' := 46) q255 d255_45 rfl, w_invv1 (ci := 11) (pc' := 49) q255 d255_46 rfl n255_298 k255_298_11 m242.1, gs_off, gs_off0, gs_0off, gs_2, xN_0, xN_2, xN_3, xN_6, xN_7, xN_8, xN_9, xN_10, xN_11, xN_12, xN_13, xN_14, xN_15, xN_16, xN_17, xN_18, xN_19, xN_20, xN_21, xN_22, xN_23, xN_24, xN_25, xN_26, xN_27, xN_28, xN_29, xN_30, xN_31, xN_32, xN_33, xN_34, xN_35, xN_36, xN_37, xN_38, xN_39, xN_40, xN_41, xN_42, xN_43, xN_44, xN_45, xN_46, xN_47, xN_48, xN_49, xN_50, xN_51, xN_52, xN_53, xN_54, xN_55, ti_0, ti_1, ti_2, ti_3, ti_4, ti_5, ti_6, ti_7, ti_8, ti_9, ti_10, ti_16, ti_19, ti_20, ti_29, ti_30, ti_31, ti_32, ti_35, ti_36, ti_38, ti_39, ti_40, ti_41, ti_42, ti_43, ti_44, ti_45, ti_46, ti_47, ti_48, ti_49, ti_50, ti_51, ti_52, ti_53, ti_54, ti_55, ti_56, ti_57, ti_58, ti_59, ti_60, ti_61, ti_62, ti_63, ti_64, ti_65, ti_74, ti_77, ti_126, ti_200, ti_201, ti_202, ti_203, ti_204, ti_205, ti_210, ti_255, ti_256, ti_400, ti_512, ti_600, ti_601, ti_602, ti_1000, ti_1023, ti_1024, ti_2000, ti_10000, ti_12602, ti_999999, ti_m999999, ti_m1, ti_2000000, ti_3000000, xN_1, xN_4, xN_5, xN_60, xN_61, xN_64, xN_200, xN_800, xN_12000, xN_12602, eq_self, and_self, and_true, true_and, if_true, if_false, decide_true, Nat.reduceLeDiff, xc2_int, xc2_ref, xc2_ra, xc2_null, xc2_long, xc2_none, xisaT_ref, xisaT_ra, xisaT_null, xc1T_int, xc1T_ref, xc1T_ra, xc1T_null, xsum_nil, xsum_int, xsum_ref, xsum_ra, xsum_long, xsum_double, xsum_null, xfl_nil, xfl_int, xfl_ref, xfl_ra, xfl_null, xfl_long, xfl_double, List.length_cons, List.length_nil, s0, s23, hcm, hopp, gM_o (show ¬ (43 : Int) = 35 by decide) (by decide), gM_o (show ¬ (40 : Int) = 35 by decide) (by decide), gM_row, h43, el, tl', b1, b2, e23, k0, k1, mk, m_marks0 hS, xfk, xfv, xak, xan, xcls, xsv', List.getElem?_cons_zero, List.getElem?_cons_succ, List.getD_cons_zero, List.getD_cons_succ, Option.getD_some, Option.isSome_some, if_true, if_pos, xcont, Option.toList_none, Option.toList_some, List.nil_append, List.cons_append]
  have tail : ∀ (G : xGm) (a f : Int) (Q : xO → xH → Prop), G m 40 = l → G (m + 23) l = cc → Wx X (d + 1) 255 49 [some (.ref m), some (.int (iI c)), some (.int (iI is))] [] (hp S (gM G m a f)) Q = Q (.inl none) (hp S (gM (gs (gs (gs G (m + 23) l (if cc = 1 ∨ is = 1 then 1 else 0)) m 42 0) m 44 1) m a f)) := fun G a f Q w40 w23 => by
    rcases his with e' | e' <;> rcases hcc with e'' | e'' <;> subst e' <;> subst e'' <;> simp only [or_self, or_true, true_or, or_false, if_true, if_false, show ((0 : Int) = 1) = False from by decide] <;>
      simp (config := { decide := true }) only [w_aload_n0 (pc' := 50) q255 d255_49 rfl, w_getV (pc' := 53) q255 d255_50 rfl f255_77, w_aload_n0 (pc' := 54) q255 d255_53 rfl, w_getI (pc' := 57) q255 d255_54 rfl f255_304, w_aload_n0 (pc' := 58) q255 d255_57 rfl, w_getV (pc' := 61) q255 d255_58 rfl f255_77, w_aload_n0 (pc' := 62) q255 d255_61 rfl, w_getI (pc' := 65) q255 d255_62 rfl f255_304, w_zaload (pc' := 66) q255 d255_65 rfl, w_baload (pc' := 66) q255 d255_65 rfl, w_baloadS (pc' := 66) q255 d255_65 rfl, w_if_ne (tg := 73) (pc' := 69) q255 d255_66 (by decide) rfl, w_iload_n2 (pc' := 70) q255 d255_69 rfl, w_if_eq (tg := 77) (pc' := 73) q255 d255_70 (by decide) rfl, w_iconst (pc' := 74) q255 d255_73 rfl, w_goto (tg := 78) q255 d255_74 (by decide), w_iconst (pc' := 78) q255 d255_77 rfl, w_zastore (pc' := 79) q255 d255_78 rfl, w_bastore (pc' := 79) q255 d255_78 rfl, w_aload_n0 (pc' := 80) q255 d255_79 rfl, w_iconst (pc' := 81) q255 d255_80 rfl, w_putZ (pc' := 84) q255 d255_81 rfl f255_307 rfl (by decide +kernel), w_aload_n0 (pc' := 85) q255 d255_84 rfl, w_iconst (pc' := 86) q255 d255_85 rfl, w_putZ (pc' := 89) q255 d255_86 rfl f255_310 rfl (by decide +kernel), w_return q255 d255_89 m255.2.1, gs_off, gs_off0, gs_0off, gs_2, xN_0, xN_2, xN_3, xN_6, xN_7, xN_8, xN_9, xN_10, xN_11, xN_12, xN_13, xN_14, xN_15, xN_16, xN_17, xN_18, xN_19, xN_20, xN_21, xN_22, xN_23, xN_24, xN_25, xN_26, xN_27, xN_28, xN_29, xN_30, xN_31, xN_32, xN_33, xN_34, xN_35, xN_36, xN_37, xN_38, xN_39, xN_40, xN_41, xN_42, xN_43, xN_44, xN_45, xN_46, xN_47, xN_48, xN_49, xN_50, xN_51, xN_52, xN_53, xN_54, xN_55, ti_0, ti_1, ti_2, ti_3, ti_4, ti_5, ti_6, ti_7, ti_8, ti_9, ti_10, ti_16, ti_19, ti_20, ti_29, ti_30, ti_31, ti_32, ti_35, ti_36, ti_38, ti_39, ti_40, ti_41, ti_42, ti_43, ti_44, ti_45, ti_46, ti_47, ti_48, ti_49, ti_50, ti_51, ti_52, ti_53, ti_54, ti_55, ti_56, ti_57, ti_58, ti_59, ti_60, ti_61, ti_62, ti_63, ti_64, ti_65, ti_74, ti_77, ti_126, ti_200, ti_201, ti_202, ti_203, ti_204, ti_205, ti_210, ti_255, ti_256, ti_400, ti_512, ti_600, ti_601, ti_602, ti_1000, ti_1023, ti_1024, ti_2000, ti_10000, ti_12602, ti_999999, ti_m999999, ti_m1, ti_2000000, ti_3000000, xN_1, xN_4, xN_5, xN_60, xN_61, xN_64, xN_200, xN_800, xN_12000, xN_12602, eq_self, and_self, and_true, true_and, if_true, if_false, decide_true, Nat.reduceLeDiff, xc2_int, xc2_ref, xc2_ra, xc2_null, xc2_long, xc2_none, xisaT_ref, xisaT_ra, xisaT_null, xc1T_int, xc1T_ref, xc1T_ra, xc1T_null, xsum_nil, xsum_int, xsum_ref, xsum_ra, xsum_long, xsum_double, xsum_null, xfl_nil, xfl_int, xfl_ref, xfl_ra, xfl_null, xfl_long, xfl_double, List.length_cons, List.length_nil, s0, s23, gM_o (show ¬ (40 : Int) = 35 by decide) (by decide), gM_row, w40, w23, tl', b1, b2, gM_sr, gM_s n42a n42b, gM_s n44a n44b, z0, z1, xfk, xfv, xak, xan, xcls, xsv', List.getElem?_cons_zero, List.getElem?_cons_succ, List.getD_cons_zero, List.getD_cons_succ, Option.getD_some, Option.isSome_some, if_true, if_pos, xcont, Option.toList_none, Option.toList_some, List.nil_append, List.cons_append]
  have fr : ∀ (G : xGm) (z : Int), FrM g G m → FrM g (gs (gs (gs G (m + 23) l z) m 42 0) m 44 1) m := fun G z h => FrM_trans h (FrM_trans (FrM_trans (FrM_row (by omega)) (FrM_slot (by omega))) (FrM_slot (by omega)))
  by_cases hcond : ¬ md = 4 ∧ ((is = 1 ∧ cc = 0) ∨ op = 1)
  · rw [if_pos (cond.mpr hcond)]
    have hK := MaK_add (t := c) (show MaK g m md ((o, q, cc) :: rest) (mks tk) from hP)
    obtain ⟨G, eG⟩ : ∃ G, G = gK g m (mks tk).length c := ⟨_, rfl⟩
    rw [← eG] at hK
    have w40 : G m 40 = l := by rw [eG, gK_o (by decide)]; exact el
    have w23 : G (m + 23) l = cc := by rw [eG, gK_r (by decide)]; exact e23
    refine ⟨gs (gs (gs G (m + 23) l (if cc = 1 ∨ is = 1 then 1 else 0)) m 42 0) m 44 1, fr G _ (by rw [eG]; exact gK_Fr), ?_, fun Q => ?_⟩
    · have hz : (if cc = 1 ∨ is = 1 then (1 : Int) else 0) = if c = 60 ∨ c = 62 ∨ c = 61 then 1 else cc := by
        rw [← eis]
        by_cases h1 : c = 60 ∨ c = 62 ∨ c = 61
        · rw [if_pos h1, if_pos h1]; simp
        · rw [if_neg h1, if_neg h1]; rcases hcc with e | e <;> subst e <;> simp
      rw [hz]
      unfold MaR
      rw [mks_one (by omega), show (c * 8 + 5) / 8 = c by omega]
      obtain ⟨h1, h2, h3, h4, h5, h6, h7⟩ := hK
      rw [w40] at h7
      refine ⟨by rw [gs_at, if_pos rfl]; rfl, ?_, ?_, ?_, ?_, ?_, ?_⟩
      · rw [gs_o (by decide), gs_o (by decide), gs_row _ _ _ (by omega), h2, if_neg (by omega)]; rfl
      · rw [gs_o (by decide), gs_at, if_pos rfl]; rfl
      · rw [gs_o (by decide), gs_o (by decide), gs_row _ _ _ (by omega), h4, if_neg hcond.1]; rfl
      · rw [gs_o (by decide), gs_o (by decide), gs_row _ _ _ (by omega)]; exact h5
      · rw [gs_row _ _ _ (by omega), gs_row _ _ _ (by omega), gs_row _ _ _ (by omega)]; exact h6
      · have q22 : ∀ z, gs (gs (gs G (m + 23) l z) m 42 0) m 44 1 (m + 22) = G (m + 22) := fun z => by rw [gs_row _ _ _ (by omega), gs_row _ _ _ (by omega), gs_row _ _ _ (by omega)]
        have q23 : ∀ z, gs (gs (gs G (m + 23) l z) m 42 0) m 44 1 (m + 23) = gs G (m + 23) l z (m + 23) := fun z => by rw [gs_row _ _ _ (by omega), gs_row _ _ _ (by omega)]
        have q24 : ∀ z, gs (gs (gs G (m + 23) l z) m 42 0) m 44 1 (m + 24) = G (m + 24) := fun z => by rw [gs_row _ _ _ (by omega), gs_row _ _ _ (by omega), gs_row _ _ _ (by omega)]
        have q40 : ∀ z, gs (gs (gs G (m + 23) l z) m 42 0) m 44 1 m 40 = l := fun z => by rw [gs_o (by decide), gs_o (by decide), gs_row _ _ _ (by omega), w40]
        rw [q22, q23, q24, q40]
        refine ⟨h7.1, h7.2.1, by rw [gs_at, if_pos rfl], h7.2.2.2.1, SkM_congr rest (l - 1) (fun j hj => ⟨rfl, gs_o (by omega), rfl⟩) h7.2.2.2.2⟩
    · show Cw X (d + 1) 255 [.ref m, .int (iI c)] (hp S (gM g m a 1)) Q = _
      rw [head Q, if_pos hcond, ← eG, tail G _ _ Q w40 w23]
  · rw [if_neg (fun h => hcond (cond.mp h))]
    refine ⟨gs (gs (gs g (m + 23) l (if cc = 1 ∨ is = 1 then 1 else 0)) m 42 0) m 44 1, fr g _ (FrM_refl g m), fun Q => ?_⟩
    show Cw X (d + 1) 255 [.ref m, .int (iI c)] (hp S (gM g m a 1)) Q = _
    rw [head Q, if_neg hcond, tail g _ _ Q el e23]
end
