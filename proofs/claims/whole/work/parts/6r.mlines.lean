/-! The model: rows and columns -/
section
variable {X : xX} {S : xLm} {g : xGm} {d m : Nat} {w : xH} {Q : xO → xH → Prop} {P : Pd} {A : Sh} {sn : Option Sh} {H : List Sh}
theorem l_mfilled {b a z : Int} (hS : MdS S m) (hG : GrS g m) (hb : g m 48 = b) (hb2 : b = 0 ∨ b = 1) (ta : ti a = a) (tz : ti z = z) : ∀ (n : Nat) (c s : Int), c + n = 200 → 0 ≤ c → ∀ Q,
    Wx X (d + 1) 323 5 [some (.ref m), some (.int (iI a)), some (.int (iI z)), some (.int (iI s)), some (.int (iI c))] [] (hp S g) Q = Q (.inl (some (.int (iI (s + sumf (ind (fun x => cb ((a ≤ lnO b x ∧ lnO b x ≤ z) ∧ ¬ g (m + 1) x = 0))) c n))))) (hp S g) := by
  have s0 := hS.1
  intro n
  induction n with
  | zero =>
    intro c s hn hc Q
    obtain rfl : c = 200 := by omega
    rw [w_iload4 (pc' := 7) q323 d323_5 rfl, sumf, Int.add_zero]
    simp (config := { decide := true }) only [w_sipush (z' := (200)) (pc' := 10) q323 d323_7 rfl (by decide), w_icmp_ge (tg := 51) (pc' := 13) q323 d323_10 (by decide) rfl, w_iload_n3 (pc' := 52) q323 d323_51 rfl, w_ireturn q323 d323_52 m323.2.1, gs_off, gs_off0, gs_0off, gs_2, xN_0, xN_2, xN_3, xN_6, xN_7, xN_8, xN_9, xN_10, xN_11, xN_12, xN_13, xN_14, xN_15, xN_16, xN_17, xN_18, xN_19, xN_20, xN_21, xN_22, xN_23, xN_24, xN_25, xN_26, xN_27, xN_28, xN_29, xN_30, xN_31, xN_32, xN_33, xN_34, xN_35, xN_36, xN_37, xN_38, xN_39, xN_40, xN_41, xN_42, xN_43, xN_44, xN_45, xN_46, xN_47, xN_48, xN_49, xN_50, xN_51, xN_52, xN_53, xN_54, xN_55, ti_0, ti_1, ti_2, ti_3, ti_4, ti_5, ti_6, ti_7, ti_8, ti_9, ti_10, ti_16, ti_19, ti_20, ti_29, ti_30, ti_31, ti_32, ti_35, ti_36, ti_38, ti_39, ti_40, ti_41, ti_42, ti_43, ti_44, ti_45, ti_46, ti_47, ti_48, ti_49, ti_50, ti_51, ti_52, ti_53, ti_54, ti_55, ti_56, ti_57, ti_58, ti_59, ti_60, ti_61, ti_62, ti_63, ti_64, ti_65, ti_74, ti_77, ti_126, ti_200, ti_201, ti_202, ti_203, ti_204, ti_205, ti_210, ti_255, ti_256, ti_400, ti_512, ti_600, ti_601, ti_602, ti_1000, ti_1023, ti_1024, ti_2000, ti_10000, ti_12602, ti_999999, ti_m999999, ti_m1, ti_2000000, ti_3000000, xN_1, xN_4, xN_5, xN_60, xN_61, xN_64, xN_200, xN_800, xN_12000, xN_12602, eq_self, and_self, and_true, true_and, if_true, if_false, decide_true, Nat.reduceLeDiff, xc2_int, xc2_ref, xc2_ra, xc2_null, xc2_long, xc2_none, xisaT_ref, xisaT_ra, xisaT_null, xc1T_int, xc1T_ref, xc1T_ra, xc1T_null, xsum_nil, xsum_int, xsum_ref, xsum_ra, xsum_long, xsum_double, xsum_null, xfl_nil, xfl_int, xfl_ref, xfl_ra, xfl_null, xfl_long, xfl_double, List.length_cons, List.length_nil, xfk, xfv, xak, xan, xcls, xsv', List.getElem?_cons_zero, List.getElem?_cons_succ, List.getD_cons_zero, List.getD_cons_succ, Option.getD_some, Option.isSome_some, if_true, if_pos, xcont, Option.toList_none, Option.toList_some, List.nil_append, List.cons_append]
  | succ n ih =>
    intro c s hn hc Q
    have tc : ti c = c := ti_eq (by omega) (by omega)
    have hlt : ¬ 200 ≤ c := by omega
    have hc2 : c < 200 := by omega
    have hal := m_along (X := X) (d := d) (g := g) (c := c) hS hb hb2 ⟨hc, hc2⟩
    have hv := lnO_rng (b := b) hc hc2
    obtain ⟨v, ev⟩ : ∃ v, lnO b c = v := ⟨_, rfl⟩
    rw [ev] at hal hv
    have tv : ti v = v := ti_eq (by omega) (by omega)
    have hin := fun Q => m_in (X := X) (d := d) (w := hp S g) (Q := Q) v a z
    rw [tv, ta, tz] at hin
    have hk := fun Q => m_isKind (X := X) (d := d) (g := g) (c := c) (k := 0) (Q := Q) hS hG ⟨hc, hc2⟩ (by decide)
    obtain ⟨o, eo⟩ : ∃ o : Int, ind (fun x => cb ((a ≤ lnO b x ∧ lnO b x ≤ z) ∧ ¬ g (m + 1) x = 0)) c = o := ⟨_, rfl⟩
    rw [sumf, eo, ← Int.add_assoc, ← ih (c + 1) (s + o) (by omega) (by omega) Q]
    unfold ind at eo
    simp only [ev] at eo
    by_cases h1 : a ≤ v ∧ v ≤ z
    · rw [if_pos h1] at hin
      by_cases h2 : g (m + 1) c = 0
      · rw [if_pos h2] at hk
        rw [if_neg (fun h => (cb_iff.mp h).2 h2)] at eo
        subst eo
        rw [w_iload4 (pc' := 7) q323 d323_5 rfl]
        simp (config := { decide := true }) only [w_sipush (z' := (200)) (pc' := 10) q323 d323_7 rfl (by decide), w_icmp_ge (tg := 51) (pc' := 13) q323 d323_10 (by decide) rfl, w_iload_n3 (pc' := 14) q323 d323_13 rfl, w_aload_n0 (pc' := 15) q323 d323_14 rfl, w_iload4 (pc' := 17) q323 d323_15 rfl, w_invv1 (ci := 11) (pc' := 20) q323 d323_17 rfl n323_425 k323_425_11 m312.1, w_iload_n1 (pc' := 21) q323 d323_20 rfl, w_iload_n2 (pc' := 22) q323 d323_21 rfl, w_invs3 (pc' := 25) q323 d323_22 rfl (by decide +kernel) k323_91_99 m232.1, w_if_eq (tg := 42) (pc' := 28) q323 d323_25 (by decide) rfl, w_aload_n0 (pc' := 29) q323 d323_28 rfl, w_iload4 (pc' := 31) q323 d323_29 rfl, w_iconst (pc' := 32) q323 d323_31 rfl, w_invv2 (ci := 11) (pc' := 35) q323 d323_32 rfl n323_133 k323_133_11 m219.1, w_if_ne (tg := 42) (pc' := 38) q323 d323_35 (by decide) rfl, w_iconst (pc' := 39) q323 d323_38 rfl, w_goto (tg := 43) q323 d323_39 (by decide), w_iconst (pc' := 43) q323 d323_42 rfl, w_iadd (pc' := 44) q323 d323_43 rfl, w_istore_n3 (pc' := 45) q323 d323_44 rfl, w_iinc4 (z := (1)) (pc' := 48) q323 d323_45 rfl, w_goto (tg := 5) q323 d323_48 (by decide), gs_off, gs_off0, gs_0off, gs_2, xN_0, xN_2, xN_3, xN_6, xN_7, xN_8, xN_9, xN_10, xN_11, xN_12, xN_13, xN_14, xN_15, xN_16, xN_17, xN_18, xN_19, xN_20, xN_21, xN_22, xN_23, xN_24, xN_25, xN_26, xN_27, xN_28, xN_29, xN_30, xN_31, xN_32, xN_33, xN_34, xN_35, xN_36, xN_37, xN_38, xN_39, xN_40, xN_41, xN_42, xN_43, xN_44, xN_45, xN_46, xN_47, xN_48, xN_49, xN_50, xN_51, xN_52, xN_53, xN_54, xN_55, ti_0, ti_1, ti_2, ti_3, ti_4, ti_5, ti_6, ti_7, ti_8, ti_9, ti_10, ti_16, ti_19, ti_20, ti_29, ti_30, ti_31, ti_32, ti_35, ti_36, ti_38, ti_39, ti_40, ti_41, ti_42, ti_43, ti_44, ti_45, ti_46, ti_47, ti_48, ti_49, ti_50, ti_51, ti_52, ti_53, ti_54, ti_55, ti_56, ti_57, ti_58, ti_59, ti_60, ti_61, ti_62, ti_63, ti_64, ti_65, ti_74, ti_77, ti_126, ti_200, ti_201, ti_202, ti_203, ti_204, ti_205, ti_210, ti_255, ti_256, ti_400, ti_512, ti_600, ti_601, ti_602, ti_1000, ti_1023, ti_1024, ti_2000, ti_10000, ti_12602, ti_999999, ti_m999999, ti_m1, ti_2000000, ti_3000000, xN_1, xN_4, xN_5, xN_60, xN_61, xN_64, xN_200, xN_800, xN_12000, xN_12602, eq_self, and_self, and_true, true_and, if_true, if_false, decide_true, Nat.reduceLeDiff, xc2_int, xc2_ref, xc2_ra, xc2_null, xc2_long, xc2_none, xisaT_ref, xisaT_ra, xisaT_null, xc1T_int, xc1T_ref, xc1T_ra, xc1T_null, xsum_nil, xsum_int, xsum_ref, xsum_ra, xsum_long, xsum_double, xsum_null, xfl_nil, xfl_int, xfl_ref, xfl_ra, xfl_null, xfl_long, xfl_double, List.length_cons, List.length_nil, s0, tc, hlt, hal, hin, hk, not_false_eq_true, not_true_eq_false, xfk, xfv, xak, xan, xcls, xsv', List.getElem?_cons_zero, List.getElem?_cons_succ, List.getD_cons_zero, List.getD_cons_succ, Option.getD_some, Option.isSome_some, if_true, if_pos, xcont, Option.toList_none, Option.toList_some, List.nil_append, List.cons_append]
      · rw [if_neg h2] at hk
        rw [if_pos (cb_iff.mpr ⟨h1, h2⟩)] at eo
        subst eo
        rw [w_iload4 (pc' := 7) q323 d323_5 rfl]
        simp (config := { decide := true }) only [w_sipush (z' := (200)) (pc' := 10) q323 d323_7 rfl (by decide), w_icmp_ge (tg := 51) (pc' := 13) q323 d323_10 (by decide) rfl, w_iload_n3 (pc' := 14) q323 d323_13 rfl, w_aload_n0 (pc' := 15) q323 d323_14 rfl, w_iload4 (pc' := 17) q323 d323_15 rfl, w_invv1 (ci := 11) (pc' := 20) q323 d323_17 rfl n323_425 k323_425_11 m312.1, w_iload_n1 (pc' := 21) q323 d323_20 rfl, w_iload_n2 (pc' := 22) q323 d323_21 rfl, w_invs3 (pc' := 25) q323 d323_22 rfl (by decide +kernel) k323_91_99 m232.1, w_if_eq (tg := 42) (pc' := 28) q323 d323_25 (by decide) rfl, w_aload_n0 (pc' := 29) q323 d323_28 rfl, w_iload4 (pc' := 31) q323 d323_29 rfl, w_iconst (pc' := 32) q323 d323_31 rfl, w_invv2 (ci := 11) (pc' := 35) q323 d323_32 rfl n323_133 k323_133_11 m219.1, w_if_ne (tg := 42) (pc' := 38) q323 d323_35 (by decide) rfl, w_iconst (pc' := 39) q323 d323_38 rfl, w_goto (tg := 43) q323 d323_39 (by decide), w_iconst (pc' := 43) q323 d323_42 rfl, w_iadd (pc' := 44) q323 d323_43 rfl, w_istore_n3 (pc' := 45) q323 d323_44 rfl, w_iinc4 (z := (1)) (pc' := 48) q323 d323_45 rfl, w_goto (tg := 5) q323 d323_48 (by decide), gs_off, gs_off0, gs_0off, gs_2, xN_0, xN_2, xN_3, xN_6, xN_7, xN_8, xN_9, xN_10, xN_11, xN_12, xN_13, xN_14, xN_15, xN_16, xN_17, xN_18, xN_19, xN_20, xN_21, xN_22, xN_23, xN_24, xN_25, xN_26, xN_27, xN_28, xN_29, xN_30, xN_31, xN_32, xN_33, xN_34, xN_35, xN_36, xN_37, xN_38, xN_39, xN_40, xN_41, xN_42, xN_43, xN_44, xN_45, xN_46, xN_47, xN_48, xN_49, xN_50, xN_51, xN_52, xN_53, xN_54, xN_55, ti_0, ti_1, ti_2, ti_3, ti_4, ti_5, ti_6, ti_7, ti_8, ti_9, ti_10, ti_16, ti_19, ti_20, ti_29, ti_30, ti_31, ti_32, ti_35, ti_36, ti_38, ti_39, ti_40, ti_41, ti_42, ti_43, ti_44, ti_45, ti_46, ti_47, ti_48, ti_49, ti_50, ti_51, ti_52, ti_53, ti_54, ti_55, ti_56, ti_57, ti_58, ti_59, ti_60, ti_61, ti_62, ti_63, ti_64, ti_65, ti_74, ti_77, ti_126, ti_200, ti_201, ti_202, ti_203, ti_204, ti_205, ti_210, ti_255, ti_256, ti_400, ti_512, ti_600, ti_601, ti_602, ti_1000, ti_1023, ti_1024, ti_2000, ti_10000, ti_12602, ti_999999, ti_m999999, ti_m1, ti_2000000, ti_3000000, xN_1, xN_4, xN_5, xN_60, xN_61, xN_64, xN_200, xN_800, xN_12000, xN_12602, eq_self, and_self, and_true, true_and, if_true, if_false, decide_true, Nat.reduceLeDiff, xc2_int, xc2_ref, xc2_ra, xc2_null, xc2_long, xc2_none, xisaT_ref, xisaT_ra, xisaT_null, xc1T_int, xc1T_ref, xc1T_ra, xc1T_null, xsum_nil, xsum_int, xsum_ref, xsum_ra, xsum_long, xsum_double, xsum_null, xfl_nil, xfl_int, xfl_ref, xfl_ra, xfl_null, xfl_long, xfl_double, List.length_cons, List.length_nil, s0, tc, hlt, hal, hin, hk, not_false_eq_true, not_true_eq_false, xfk, xfv, xak, xan, xcls, xsv', List.getElem?_cons_zero, List.getElem?_cons_succ, List.getD_cons_zero, List.getD_cons_succ, Option.getD_some, Option.isSome_some, if_true, if_pos, xcont, Option.toList_none, Option.toList_some, List.nil_append, List.cons_append]
    · rw [if_neg h1] at hin
      rw [if_neg (fun h => h1 (cb_iff.mp h).1)] at eo
      subst eo
      rw [w_iload4 (pc' := 7) q323 d323_5 rfl]
      simp (config := { decide := true }) only [w_sipush (z' := (200)) (pc' := 10) q323 d323_7 rfl (by decide), w_icmp_ge (tg := 51) (pc' := 13) q323 d323_10 (by decide) rfl, w_iload_n3 (pc' := 14) q323 d323_13 rfl, w_aload_n0 (pc' := 15) q323 d323_14 rfl, w_iload4 (pc' := 17) q323 d323_15 rfl, w_invv1 (ci := 11) (pc' := 20) q323 d323_17 rfl n323_425 k323_425_11 m312.1, w_iload_n1 (pc' := 21) q323 d323_20 rfl, w_iload_n2 (pc' := 22) q323 d323_21 rfl, w_invs3 (pc' := 25) q323 d323_22 rfl (by decide +kernel) k323_91_99 m232.1, w_if_eq (tg := 42) (pc' := 28) q323 d323_25 (by decide) rfl, w_aload_n0 (pc' := 29) q323 d323_28 rfl, w_iload4 (pc' := 31) q323 d323_29 rfl, w_iconst (pc' := 32) q323 d323_31 rfl, w_invv2 (ci := 11) (pc' := 35) q323 d323_32 rfl n323_133 k323_133_11 m219.1, w_if_ne (tg := 42) (pc' := 38) q323 d323_35 (by decide) rfl, w_iconst (pc' := 39) q323 d323_38 rfl, w_goto (tg := 43) q323 d323_39 (by decide), w_iconst (pc' := 43) q323 d323_42 rfl, w_iadd (pc' := 44) q323 d323_43 rfl, w_istore_n3 (pc' := 45) q323 d323_44 rfl, w_iinc4 (z := (1)) (pc' := 48) q323 d323_45 rfl, w_goto (tg := 5) q323 d323_48 (by decide), gs_off, gs_off0, gs_0off, gs_2, xN_0, xN_2, xN_3, xN_6, xN_7, xN_8, xN_9, xN_10, xN_11, xN_12, xN_13, xN_14, xN_15, xN_16, xN_17, xN_18, xN_19, xN_20, xN_21, xN_22, xN_23, xN_24, xN_25, xN_26, xN_27, xN_28, xN_29, xN_30, xN_31, xN_32, xN_33, xN_34, xN_35, xN_36, xN_37, xN_38, xN_39, xN_40, xN_41, xN_42, xN_43, xN_44, xN_45, xN_46, xN_47, xN_48, xN_49, xN_50, xN_51, xN_52, xN_53, xN_54, xN_55, ti_0, ti_1, ti_2, ti_3, ti_4, ti_5, ti_6, ti_7, ti_8, ti_9, ti_10, ti_16, ti_19, ti_20, ti_29, ti_30, ti_31, ti_32, ti_35, ti_36, ti_38, ti_39, ti_40, ti_41, ti_42, ti_43, ti_44, ti_45, ti_46, ti_47, ti_48, ti_49, ti_50, ti_51, ti_52, ti_53, ti_54, ti_55, ti_56, ti_57, ti_58, ti_59, ti_60, ti_61, ti_62, ti_63, ti_64, ti_65, ti_74, ti_77, ti_126, ti_200, ti_201, ti_202, ti_203, ti_204, ti_205, ti_210, ti_255, ti_256, ti_400, ti_512, ti_600, ti_601, ti_602, ti_1000, ti_1023, ti_1024, ti_2000, ti_10000, ti_12602, ti_999999, ti_m999999, ti_m1, ti_2000000, ti_3000000, xN_1, xN_4, xN_5, xN_60, xN_61, xN_64, xN_200, xN_800, xN_12000, xN_12602, eq_self, and_self, and_true, true_and, if_true, if_false, decide_true, Nat.reduceLeDiff, xc2_int, xc2_ref, xc2_ra, xc2_null, xc2_long, xc2_none, xisaT_ref, xisaT_ra, xisaT_null, xc1T_int, xc1T_ref, xc1T_ra, xc1T_null, xsum_nil, xsum_int, xsum_ref, xsum_ra, xsum_long, xsum_double, xsum_null, xfl_nil, xfl_int, xfl_ref, xfl_ra, xfl_null, xfl_long, xfl_double, List.length_cons, List.length_nil, s0, tc, hlt, hal, hin, xfk, xfv, xak, xan, xcls, xsv', List.getElem?_cons_zero, List.getElem?_cons_succ, List.getD_cons_zero, List.getD_cons_succ, Option.getD_some, Option.isSome_some, if_true, if_pos, xcont, Option.toList_none, Option.toList_some, List.nil_append, List.cons_append]
/-- how many cells from a line up to another one are filled -/
noncomputable def fiN (K : Int → Int) (b a z : Int) : Int := sumf (ind (fun x => cb ((a ≤ lnO b x ∧ lnO b x ≤ z) ∧ ¬ K x = 0))) 0 200
theorem fiN_congr {K K' : Int → Int} {b a z : Int} (h : ∀ c, 0 ≤ c → c < 200 → K c = K' c) : fiN K b a z = fiN K' b a z := by
  unfold fiN
  refine sumf_congr 200 0 (fun x x1 x2 => ?_)
  have e : cb ((a ≤ lnO b x ∧ lnO b x ≤ z) ∧ ¬ K x = 0) = cb ((a ≤ lnO b x ∧ lnO b x ≤ z) ∧ ¬ K' x = 0) := by rw [h x x1 (by omega)]
  unfold ind
  simp only [e]
theorem fiN_rng {K : Int → Int} {b a z : Int} : 0 ≤ fiN K b a z ∧ fiN K b a z ≤ 200 := ind_rng _ 200 0
theorem fiN_zero {K : Int → Int} {b a z : Int} : fiN K b a z = 0 ↔ ∀ c, 0 ≤ c → c < 200 → a ≤ lnO b c → lnO b c ≤ z → K c = 0 := by
  unfold fiN
  rw [ind_zero]
  constructor
  · intro h c c1 c2 h1 h2
    have := h c c1 (by omega)
    rw [cb_not] at this
    exact Decidable.not_not.mp (fun hn => this ⟨⟨h1, h2⟩, hn⟩)
  · intro h c c1 c2
    rw [cb_not]
    rintro ⟨⟨h1, h2⟩, h3⟩
    exact h3 (h c c1 (by omega) h1 h2)
theorem m_filledIn {b a z : Int} (hS : MdS S m) (hG : GrS g m) (hb : g m 48 = b) (hb2 : b = 0 ∨ b = 1) (ta : ti a = a) (tz : ti z = z) : ∀ Q, Cw X (d + 1) 323 [.ref m, .int (iI a), .int (iI z)] (hp S g) Q = Q (.inl (some (.int (iI (fiN (g (m + 1)) b a z))))) (hp S g) := by
  intro Q
  have := l_mfilled (X := X) (d := d) (g := g) hS hG hb hb2 ta tz 200 0 0 (by decide) (by decide) Q
  rw [Int.zero_add] at this
  unfold fiN
  rw [← this, e323]
  simp (config := { decide := true }) only [w_iconst (pc' := 1) q323 d323_0 rfl, w_istore_n3 (pc' := 2) q323 d323_1 rfl, w_iconst (pc' := 3) q323 d323_2 rfl, w_istore4 (pc' := 5) q323 d323_3 rfl, gs_off, gs_off0, gs_0off, gs_2, xN_0, xN_2, xN_3, xN_6, xN_7, xN_8, xN_9, xN_10, xN_11, xN_12, xN_13, xN_14, xN_15, xN_16, xN_17, xN_18, xN_19, xN_20, xN_21, xN_22, xN_23, xN_24, xN_25, xN_26, xN_27, xN_28, xN_29, xN_30, xN_31, xN_32, xN_33, xN_34, xN_35, xN_36, xN_37, xN_38, xN_39, xN_40, xN_41, xN_42, xN_43, xN_44, xN_45, xN_46, xN_47, xN_48, xN_49, xN_50, xN_51, xN_52, xN_53, xN_54, xN_55, ti_0, ti_1, ti_2, ti_3, ti_4, ti_5, ti_6, ti_7, ti_8, ti_9, ti_10, ti_16, ti_19, ti_20, ti_29, ti_30, ti_31, ti_32, ti_35, ti_36, ti_38, ti_39, ti_40, ti_41, ti_42, ti_43, ti_44, ti_45, ti_46, ti_47, ti_48, ti_49, ti_50, ti_51, ti_52, ti_53, ti_54, ti_55, ti_56, ti_57, ti_58, ti_59, ti_60, ti_61, ti_62, ti_63, ti_64, ti_65, ti_74, ti_77, ti_126, ti_200, ti_201, ti_202, ti_203, ti_204, ti_205, ti_210, ti_255, ti_256, ti_400, ti_512, ti_600, ti_601, ti_602, ti_1000, ti_1023, ti_1024, ti_2000, ti_10000, ti_12602, ti_999999, ti_m999999, ti_m1, ti_2000000, ti_3000000, xN_1, xN_4, xN_5, xN_60, xN_61, xN_64, xN_200, xN_800, xN_12000, xN_12602, eq_self, and_self, and_true, true_and, if_true, if_false, decide_true, Nat.reduceLeDiff, xc2_int, xc2_ref, xc2_ra, xc2_null, xc2_long, xc2_none, xisaT_ref, xisaT_ra, xisaT_null, xc1T_int, xc1T_ref, xc1T_ra, xc1T_null, xsum_nil, xsum_int, xsum_ref, xsum_ra, xsum_long, xsum_double, xsum_null, xfl_nil, xfl_int, xfl_ref, xfl_ra, xfl_null, xfl_long, xfl_double, List.length_cons, List.length_nil, xfk, xfv, xak, xan, xcls, xsv', List.getElem?_cons_zero, List.getElem?_cons_succ, List.getD_cons_zero, List.getD_cons_succ, Option.getD_some, Option.isSome_some, if_true, if_pos, xcont, Option.toList_none, Option.toList_some, List.nil_append, List.cons_append]
/-! cells go over -/
/-- a cell out of a sheet, or an empty one -/
def CeA (r : Int → Int) (A : Sh) (x : Int) (q : Int) : Prop := if q < 0 then r x = 0 ∧ r (400 + x) = 0 else CelR r x (A.1 q) (A.2.1 q) (mks (A.2.2.1 q))
theorem CeA_congr {r r' : Int → Int} {x q : Int} (hx : 0 ≤ x) (hx2 : x < 200) (h : ∀ i, celI x i → r' i = r i) (hC : CeA r A x q) : CeA r' A x q := by
  unfold CeA at *
  split
  · next e =>
    rw [if_pos e] at hC
    rw [h _ (.inl rfl), h _ (.inr (.inr (.inl rfl)))]
    exact hC
  · next e =>
    rw [if_neg e] at hC
    exact CelR_congr hx hx2 h hC
theorem CeA_em {r : Int → Int} {x q : Int} (hq : q < 0) : CeA (emR r x) A x q := by
  unfold CeA
  rw [if_pos hq]
  exact ⟨emR_on (.inl rfl), emR_on (.inr (.inr (.inl rfl)))⟩
/-- a row whose cells come from others of A; the counts are A's -/
def RwA (r : Int → Int) (A : Sh) (src : Int → Int) : Prop := (r 600 = A.2.2.2.1 ∧ r 601 = A.2.2.2.2) ∧ ∀ x, 0 ≤ x → x < 200 → CeA r A x (src x)
theorem RwA_id {r : Int → Int} (h : ShM r A) : RwA r A (fun x => x) := ⟨h.1, fun x x1 x2 => by unfold CeA; dsimp only; rw [if_neg (by omega)]; exact ShM_cel h x1 x2⟩
theorem RwA_src {r : Int → Int} {s s' : Int → Int} (h : RwA r A s) (hs : ∀ x, 0 ≤ x → x < 200 → s x = s' x ∨ (s x < 0 ∧ s' x < 0) ∨ (s' x < 0 ∧ 0 ≤ s x ∧ A.1 (s x) = 0)) : RwA r A s' := by
  refine ⟨h.1, fun x x1 x2 => ?_⟩
  have hc := h.2 x x1 x2
  rcases hs x x1 x2 with e | ⟨e1, e2⟩ | ⟨e1, e2, e3⟩
  · rw [← e]; exact hc
  · unfold CeA at *
    rw [if_pos e1] at hc
    rw [if_pos e2]; exact hc
  · unfold CeA at *
    rw [if_neg (by omega)] at hc
    rw [if_pos e1]
    exact ⟨hc.1.trans e3, hc.2.2.2 (by rw [e3]; decide)⟩
/-- f goes to t -/
theorem RwA_mv {r : Int → Int} {s : Int → Int} {f t : Int} (hf : 0 ≤ f ∧ f < 200) (ht : 0 ≤ t ∧ t < 200) (hne : ¬ f = t) (h : RwA r A s) (hs : 0 ≤ s f) : RwA (mvR r f t) A (fun x => if x = f then -1 else if x = t then s f else s x) := by
  refine ⟨⟨?_, ?_⟩, fun x x1 x2 => ?_⟩
  · rw [mvR_off (by unfold celI; omega) (by unfold celI; omega)]; exact h.1.1
  · rw [mvR_off (by unfold celI; omega) (by unfold celI; omega)]; exact h.1.2
  · dsimp only
    by_cases e1 : x = f
    · rw [if_pos e1, e1]
      exact CeA_em (by decide)
    · rw [if_neg e1]
      by_cases e2 : x = t
      · rw [if_pos e2, e2]
        have hc := h.2 f hf.1 hf.2
        unfold CeA at *
        rw [if_neg (by omega)] at hc ⊢
        exact mvR_t hf ht hne hc
      · rw [if_neg e2]
        exact CeA_congr x1 x2 (fun i hi => mvR_off (celI_ne x1 x2 hf.1 hf.2 e1 hi) (celI_ne x1 x2 ht.1 ht.2 e2 hi)) (h.2 x x1 x2)
/-- the sheet whose cells come from others -/
def srA (A : Sh) (s : Int → Int) : Sh := (fun x => if s x < 0 then 0 else A.1 (s x), fun x => if s x < 0 then 0 else A.2.1 (s x), fun x => if s x < 0 then [] else A.2.2.1 (s x), A.2.2.2)
theorem RwA_sh {r : Int → Int} {s : Int → Int} (h : RwA r A s) : ShM r (srA A s) := by
  refine ⟨h.1, fun x x1 x2 => ?_⟩
  have hc := h.2 x x1 x2
  unfold CeA at hc
  unfold srA
  dsimp only
  by_cases e : s x < 0
  · rw [if_pos e] at hc
    rw [if_pos e, if_pos e, if_pos e]
    exact ⟨hc.1, fun h => absurd h (by decide), fun h => absurd h (by decide), fun _ => hc.2⟩
  · rw [if_neg e] at hc
    rw [if_neg e, if_neg e, if_neg e]
    exact hc
theorem srA_ok {s : Int → Int} (h : ShOK A) (hs : ∀ x, 0 ≤ x → x < 200 → s x < 200) : ShOK (srA A s) := fun c c1 c2 => by
  unfold srA
  dsimp only
  by_cases e : s c < 0
  · rw [if_pos e, if_pos e, if_pos e]
    exact ⟨.inl rfl, fun h => absurd h (by decide), fun h => absurd h (by decide)⟩
  · rw [if_neg e, if_neg e, if_neg e]
    exact h (s c) (by omega) (hs c c1 c2)
/-- the configuration of a change of lines -/
def LnC (g : xGm) (m : Nat) (b ln i : Int) : Prop := g m 48 = b ∧ g m 50 = ln ∧ g m 49 = i
/-- where the contents are, the cells from c on being done, an insertion -/
def inS (b ln c x : Int) : Int := if ln < lnO b x ∧ c ≤ x - lnT b then x - lnT b else if c ≤ x ∧ ln ≤ lnO b x ∧ lnO b x < lnL b then -1 else x
/-- where the contents are, the cells below c being done, a deletion -/
def deS (b ln c x : Int) : Int := if ln ≤ lnO b x ∧ lnO b x < lnL b ∧ x + lnT b < c then x + lnT b else if (x < c ∧ ln < lnO b x) ∨ lnO b x = ln then -1 else x
theorem ln_up {b y : Int} (hb : b = 0 ∨ b = 1) (hy : 0 ≤ y) (hy2 : y < 200) (h : lnO b y < lnL b) : wlM b y (lnO b y + 1) = y + lnT b ∧ y + lnT b < 200 ∧ lnO b (y + lnT b) = lnO b y + 1 := by
  unfold wlM lnT lnO lnL at *
  rcases hb with rfl | rfl
  · rw [if_pos rfl] at h ⊢
    rw [if_pos rfl] at h
    rw [if_pos rfl, if_pos rfl, if_pos rfl]
    omega
  · rw [if_neg (by decide)] at h ⊢
    rw [if_neg (by decide)] at h
    rw [if_neg (by decide), if_neg (by decide), if_neg (by decide)]
    omega
theorem ln_dn {b y : Int} (hb : b = 0 ∨ b = 1) (hy : 0 ≤ y) (hy2 : y < 200) (h : 0 < lnO b y) : wlM b y (lnO b y - 1) = y - lnT b ∧ 0 ≤ y - lnT b ∧ lnO b (y - lnT b) = lnO b y - 1 := by
  unfold wlM lnT lnO at *
  rcases hb with rfl | rfl
  · rw [if_pos rfl] at h ⊢
    rw [if_pos rfl, if_pos rfl, if_pos rfl]
    omega
  · rw [if_neg (by decide)] at h ⊢
    rw [if_neg (by decide), if_neg (by decide), if_neg (by decide)]
    omega
theorem lnT_pos {b : Int} : 1 ≤ lnT b ∧ lnT b ≤ 10 := by unfold lnT; split <;> omega
theorem LnC_row1 {b ln i : Int} {f : Int → Int} (h : LnC g m b ln i) : LnC (gr g (m + 1) f) m b ln i := by
  unfold LnC at *
  rw [gr_row _ _ (by omega)]
  exact h
theorem l_inShift {b ln : Int} (hS : MdS S m) (hb : b = 0 ∨ b = 1) (hl : 0 ≤ ln ∧ ln ≤ lnL b) : ∀ (n : Nat) (k : Int) (g : xGm) (y2 y3 : Option Value), k + n = 200 → 0 ≤ k → LnC g m b ln 1 → rgR (g (m + 1)) → RwA (g (m + 1)) A (inS b ln (200 - k)) →
    ∃ r', rgR r' ∧ RwA r' A (inS b ln 0) ∧ ∀ Q, Wx X (d + 3) 324 2 [some (.ref m), some (.int (iI k)), y2, y3] [] (hp S g) Q = Q (.inl none) (hp S (gr g (m + 1) r')) := by
  have s0 := hS.1
  intro n
  induction n with
  | zero =>
    intro k g y2 y3 hn hk hL hG hR
    obtain rfl : k = 200 := by omega
    refine ⟨g (m + 1), hG, hR, fun Q => ?_⟩
    have e : gr g (m + 1) (g (m + 1)) = g := by
      funext h
      unfold gr
      split
      · next e => rw [e]
      · rfl
    rw [e, w_iload_n1 (pc' := 3) q324 d324_2 rfl]
    simp (config := { decide := true }) only [w_sipush (z' := (200)) (pc' := 6) q324 d324_3 rfl (by decide), w_icmp_ge (tg := 105) (pc' := 9) q324 d324_6 (by decide) rfl, w_return q324 d324_105 m324.2.1, gs_off, gs_off0, gs_0off, gs_2, xN_0, xN_2, xN_3, xN_6, xN_7, xN_8, xN_9, xN_10, xN_11, xN_12, xN_13, xN_14, xN_15, xN_16, xN_17, xN_18, xN_19, xN_20, xN_21, xN_22, xN_23, xN_24, xN_25, xN_26, xN_27, xN_28, xN_29, xN_30, xN_31, xN_32, xN_33, xN_34, xN_35, xN_36, xN_37, xN_38, xN_39, xN_40, xN_41, xN_42, xN_43, xN_44, xN_45, xN_46, xN_47, xN_48, xN_49, xN_50, xN_51, xN_52, xN_53, xN_54, xN_55, ti_0, ti_1, ti_2, ti_3, ti_4, ti_5, ti_6, ti_7, ti_8, ti_9, ti_10, ti_16, ti_19, ti_20, ti_29, ti_30, ti_31, ti_32, ti_35, ti_36, ti_38, ti_39, ti_40, ti_41, ti_42, ti_43, ti_44, ti_45, ti_46, ti_47, ti_48, ti_49, ti_50, ti_51, ti_52, ti_53, ti_54, ti_55, ti_56, ti_57, ti_58, ti_59, ti_60, ti_61, ti_62, ti_63, ti_64, ti_65, ti_74, ti_77, ti_126, ti_200, ti_201, ti_202, ti_203, ti_204, ti_205, ti_210, ti_255, ti_256, ti_400, ti_512, ti_600, ti_601, ti_602, ti_1000, ti_1023, ti_1024, ti_2000, ti_10000, ti_12602, ti_999999, ti_m999999, ti_m1, ti_2000000, ti_3000000, xN_1, xN_4, xN_5, xN_60, xN_61, xN_64, xN_200, xN_800, xN_12000, xN_12602, eq_self, and_self, and_true, true_and, if_true, if_false, decide_true, Nat.reduceLeDiff, xc2_int, xc2_ref, xc2_ra, xc2_null, xc2_long, xc2_none, xisaT_ref, xisaT_ra, xisaT_null, xc1T_int, xc1T_ref, xc1T_ra, xc1T_null, xsum_nil, xsum_int, xsum_ref, xsum_ra, xsum_long, xsum_double, xsum_null, xfl_nil, xfl_int, xfl_ref, xfl_ra, xfl_null, xfl_long, xfl_double, List.length_cons, List.length_nil, xfk, xfv, xak, xan, xcls, xsv', List.getElem?_cons_zero, List.getElem?_cons_succ, List.getD_cons_zero, List.getD_cons_succ, Option.getD_some, Option.isSome_some, if_true, if_pos, xcont, Option.toList_none, Option.toList_some, List.nil_append, List.cons_append]
  | succ n ih =>
    intro k g y2 y3 hn hk hL hG hR
    obtain ⟨h1, h2, h3⟩ := id hL
    have tk : ti k = k := ti_eq (by omega) (by omega)
    have hlt : ¬ 200 ≤ k := by omega
    obtain ⟨y, ey⟩ : ∃ y : Int, y = 199 - k := ⟨_, rfl⟩
    have hy : 0 ≤ y ∧ y < 200 := by omega
    have hal := m_along (X := X) (d := d + 2) (g := g) (c := y) hS h1 hb hy
    have hmo := m_most (X := X) (d := d + 2) (g := g) hS h1 hb
    have hv := lnO_rng (b := b) hy.1 hy.2
    have hT := lnT_pos (b := b)
    have tv : ti (lnO b y) = lnO b y := ti_eq (by omega) (by omega)
    have tl' : ti (lnL b) = lnL b := ti_eq (by omega) (by omega)
    have tln : ti ln = ln := ti_eq (by omega) (by omega)
    have hR' : RwA (g (m + 1)) A (inS b ln (y + 1)) := by rw [show y + 1 = 200 - k by omega]; exact hR
    by_cases hgo : ln ≤ lnO b y ∧ lnO b y < lnL b
    · obtain ⟨u1, u2, u3⟩ := ln_up hb hy.1 hy.2 hgo.2
      have hwl := m_withLine (X := X) (d := d + 2) (g := g) (c := y) (v := lnO b y + 1) hS h1 hb hy
      rw [u1] at hwl
      have hmv := m_moves (X := X) (d := d) (g := g) (f := y) (t := y + lnT b) hS hy (by omega) (by omega)
      have hsy : inS b ln (y + 1) y = y := by
        unfold inS
        rw [if_neg (by omega), if_neg (by omega)]
      have hR2 := RwA_mv hy (show 0 ≤ y + lnT b ∧ y + lnT b < 200 by omega) (by omega) hR' (by rw [hsy]; exact hy.1)
      have hR3 : RwA (mvR (g (m + 1)) y (y + lnT b)) A (inS b ln y) := by
        refine RwA_src hR2 (fun x x1 x2 => .inl ?_)
        by_cases e1 : x = y
        · rw [if_pos e1, e1]
          unfold inS
          rw [if_neg (by omega), if_pos (by omega)]
        · rw [if_neg e1]
          by_cases e2 : x = y + lnT b
          · rw [if_pos e2, hsy, e2]
            unfold inS
            rw [if_pos (by omega)]
            omega
          · rw [if_neg e2]
            unfold inS
            by_cases c1 : ln < lnO b x ∧ y + 1 ≤ x - lnT b
            · rw [if_pos c1, if_pos (by omega)]
            · have c1' : ¬ (ln < lnO b x ∧ y ≤ x - lnT b) := by omega
              rw [if_neg c1, if_neg c1']
              by_cases c2 : y + 1 ≤ x ∧ ln ≤ lnO b x ∧ lnO b x < lnL b
              · have c2' : y ≤ x ∧ ln ≤ lnO b x ∧ lnO b x < lnL b := by omega
                rw [if_pos c2, if_pos c2']
              · have c2' : ¬ (y ≤ x ∧ ln ≤ lnO b x ∧ lnO b x < lnL b) := by omega
                rw [if_neg c2, if_neg c2']
      have hc1 : ¬ lnO b y < ln := by omega
      have hc2 : ¬ lnL b ≤ lnO b y := by omega
      obtain ⟨r', i1, i2, i3⟩ := ih (k + 1) (gr g (m + 1) (mvR (g (m + 1)) y (y + lnT b))) (some (.int (iI y))) (some (.int (iI (lnO b y)))) (by omega) (by omega) (LnC_row1 hL) (by rw [gr_hit]; exact mvR_rg hG) (by rw [gr_hit, show 200 - (k + 1) = y by omega]; exact hR3)
      have egg : ∀ f, gr (gr g (m + 1) f) (m + 1) r' = gr g (m + 1) r' := fun f => by
        funext h; unfold gr; split
        · rfl
        · rfl
      rw [egg] at i3
      refine ⟨r', i1, i2, fun Q => ?_⟩
      rw [← i3 Q, w_iload_n1 (pc' := 3) q324 d324_2 rfl]
      subst ey
      simp (config := { decide := true }) only [w_sipush (z' := (200)) (pc' := 6) q324 d324_3 rfl (by decide), w_icmp_ge (tg := 105) (pc' := 9) q324 d324_6 (by decide) rfl, w_aload_n0 (pc' := 10) q324 d324_9 rfl, w_getI (pc' := 13) q324 d324_10 rfl f324_428, w_if_eq (tg := 24) (pc' := 16) q324 d324_13 (by decide) rfl, w_sipush (z' := (199)) (pc' := 19) q324 d324_16 rfl (by decide), w_iload_n1 (pc' := 20) q324 d324_19 rfl, w_isub (pc' := 21) q324 d324_20 rfl, w_goto (tg := 25) q324 d324_21 (by decide), w_iload_n1 (pc' := 25) q324 d324_24 rfl, w_istore_n2 (pc' := 26) q324 d324_25 rfl, w_aload_n0 (pc' := 27) q324 d324_26 rfl, w_iload_n2 (pc' := 28) q324 d324_27 rfl, w_invv1 (ci := 11) (pc' := 31) q324 d324_28 rfl n324_425 k324_425_11 m312.1, w_istore_n3 (pc' := 32) q324 d324_31 rfl, w_aload_n0 (pc' := 33) q324 d324_32 rfl, w_getI (pc' := 36) q324 d324_33 rfl f324_428, w_if_eq (tg := 71) (pc' := 39) q324 d324_36 (by decide) rfl, w_iload_n3 (pc' := 40) q324 d324_39 rfl, w_aload_n0 (pc' := 41) q324 d324_40 rfl, w_getI (pc' := 44) q324 d324_41 rfl f324_431, w_icmp_lt (tg := 71) (pc' := 47) q324 d324_44 (by decide) rfl, w_iload_n3 (pc' := 48) q324 d324_47 rfl, w_aload_n0 (pc' := 49) q324 d324_48 rfl, w_invv0 (ci := 11) (pc' := 52) q324 d324_49 rfl n324_434 k324_434_11 m313.1, w_icmp_ge (tg := 71) (pc' := 55) q324 d324_52 (by decide) rfl, w_aload_n0 (pc' := 56) q324 d324_55 rfl, w_iload_n2 (pc' := 57) q324 d324_56 rfl, w_aload_n0 (pc' := 58) q324 d324_57 rfl, w_iload_n2 (pc' := 59) q324 d324_58 rfl, w_iload_n3 (pc' := 60) q324 d324_59 rfl, w_iconst (pc' := 61) q324 d324_60 rfl, w_iadd (pc' := 62) q324 d324_61 rfl, w_invv2 (ci := 11) (pc' := 65) q324 d324_62 rfl n324_437 k324_437_11 m314.1, w_invv2 (ci := 11) (pc' := 68) q324 d324_65 rfl n324_471 k324_471_11 m318.1, w_goto (tg := 99) q324 d324_68 (by decide), w_aload_n0 (pc' := 72) q324 d324_71 rfl, w_getI (pc' := 75) q324 d324_72 rfl f324_428, w_if_ne (tg := 99) (pc' := 78) q324 d324_75 (by decide) rfl, w_iload_n3 (pc' := 79) q324 d324_78 rfl, w_aload_n0 (pc' := 80) q324 d324_79 rfl, w_getI (pc' := 83) q324 d324_80 rfl f324_431, w_icmp_le (tg := 99) (pc' := 86) q324 d324_83 (by decide) rfl, w_aload_n0 (pc' := 87) q324 d324_86 rfl, w_iload_n2 (pc' := 88) q324 d324_87 rfl, w_aload_n0 (pc' := 89) q324 d324_88 rfl, w_iload_n2 (pc' := 90) q324 d324_89 rfl, w_iload_n3 (pc' := 91) q324 d324_90 rfl, w_iconst (pc' := 92) q324 d324_91 rfl, w_isub (pc' := 93) q324 d324_92 rfl, w_invv2 (ci := 11) (pc' := 96) q324 d324_93 rfl n324_437 k324_437_11 m314.1, w_invv2 (ci := 11) (pc' := 99) q324 d324_96 rfl n324_471 k324_471_11 m318.1, w_iinc1 (z := (1)) (pc' := 102) q324 d324_99 rfl, w_goto (tg := 2) q324 d324_102 (by decide), gs_off, gs_off0, gs_0off, gs_2, xN_0, xN_2, xN_3, xN_6, xN_7, xN_8, xN_9, xN_10, xN_11, xN_12, xN_13, xN_14, xN_15, xN_16, xN_17, xN_18, xN_19, xN_20, xN_21, xN_22, xN_23, xN_24, xN_25, xN_26, xN_27, xN_28, xN_29, xN_30, xN_31, xN_32, xN_33, xN_34, xN_35, xN_36, xN_37, xN_38, xN_39, xN_40, xN_41, xN_42, xN_43, xN_44, xN_45, xN_46, xN_47, xN_48, xN_49, xN_50, xN_51, xN_52, xN_53, xN_54, xN_55, ti_0, ti_1, ti_2, ti_3, ti_4, ti_5, ti_6, ti_7, ti_8, ti_9, ti_10, ti_16, ti_19, ti_20, ti_29, ti_30, ti_31, ti_32, ti_35, ti_36, ti_38, ti_39, ti_40, ti_41, ti_42, ti_43, ti_44, ti_45, ti_46, ti_47, ti_48, ti_49, ti_50, ti_51, ti_52, ti_53, ti_54, ti_55, ti_56, ti_57, ti_58, ti_59, ti_60, ti_61, ti_62, ti_63, ti_64, ti_65, ti_74, ti_77, ti_126, ti_200, ti_201, ti_202, ti_203, ti_204, ti_205, ti_210, ti_255, ti_256, ti_400, ti_512, ti_600, ti_601, ti_602, ti_1000, ti_1023, ti_1024, ti_2000, ti_10000, ti_12602, ti_999999, ti_m999999, ti_m1, ti_2000000, ti_3000000, xN_1, xN_4, xN_5, xN_60, xN_61, xN_64, xN_200, xN_800, xN_12000, xN_12602, eq_self, and_self, and_true, true_and, if_true, if_false, decide_true, Nat.reduceLeDiff, xc2_int, xc2_ref, xc2_ra, xc2_null, xc2_long, xc2_none, xisaT_ref, xisaT_ra, xisaT_null, xc1T_int, xc1T_ref, xc1T_ra, xc1T_null, xsum_nil, xsum_int, xsum_ref, xsum_ra, xsum_long, xsum_double, xsum_null, xfl_nil, xfl_int, xfl_ref, xfl_ra, xfl_null, xfl_long, xfl_double, List.length_cons, List.length_nil, s0, tk, hlt, h2, h3, hal, hmo, tv, tl', tln, hc1, hc2, hwl, hmv, not_true_eq_false, xfk, xfv, xak, xan, xcls, xsv', List.getElem?_cons_zero, List.getElem?_cons_succ, List.getD_cons_zero, List.getD_cons_succ, Option.getD_some, Option.isSome_some, if_true, if_pos, xcont, Option.toList_none, Option.toList_some, List.nil_append, List.cons_append]
    · have hR3 : RwA (g (m + 1)) A (inS b ln y) := by
        refine RwA_src hR' (fun x x1 x2 => .inl ?_)
        unfold inS
        by_cases c1 : ln < lnO b x ∧ y + 1 ≤ x - lnT b
        · rw [if_pos c1, if_pos (by omega)]
        · have c1' : ¬ (ln < lnO b x ∧ y ≤ x - lnT b) := by
            rintro ⟨a1, a2⟩
            have ex : x = y + lnT b := by omega
            obtain ⟨d1, d2, d3⟩ := ln_dn (b := b) hb x1 x2 (by omega)
            have exy : x - lnT b = y := by omega
            rw [exy] at d3
            have := lnO_rng (b := b) x1 x2
            omega
          rw [if_neg c1, if_neg c1']
          by_cases c2 : y + 1 ≤ x ∧ ln ≤ lnO b x ∧ lnO b x < lnL b
          · rw [if_pos c2, if_pos (by omega)]
          · have c2' : ¬ (y ≤ x ∧ ln ≤ lnO b x ∧ lnO b x < lnL b) := by
              rintro ⟨a1, a2, a3⟩
              have ex : x = y := by omega
              subst ex
              exact hgo ⟨a2, a3⟩
            rw [if_neg c2, if_neg c2']
      obtain ⟨r', i1, i2, i3⟩ := ih (k + 1) g (some (.int (iI y))) (some (.int (iI (lnO b y)))) (by omega) (by omega) hL hG (by rw [show 200 - (k + 1) = y by omega]; exact hR3)
      refine ⟨r', i1, i2, fun Q => ?_⟩
      rw [← i3 Q, w_iload_n1 (pc' := 3) q324 d324_2 rfl]
      subst ey
      by_cases hc1 : lnO b (199 - k) < ln
      · simp (config := { decide := true }) only [w_sipush (z' := (200)) (pc' := 6) q324 d324_3 rfl (by decide), w_icmp_ge (tg := 105) (pc' := 9) q324 d324_6 (by decide) rfl, w_aload_n0 (pc' := 10) q324 d324_9 rfl, w_getI (pc' := 13) q324 d324_10 rfl f324_428, w_if_eq (tg := 24) (pc' := 16) q324 d324_13 (by decide) rfl, w_sipush (z' := (199)) (pc' := 19) q324 d324_16 rfl (by decide), w_iload_n1 (pc' := 20) q324 d324_19 rfl, w_isub (pc' := 21) q324 d324_20 rfl, w_goto (tg := 25) q324 d324_21 (by decide), w_iload_n1 (pc' := 25) q324 d324_24 rfl, w_istore_n2 (pc' := 26) q324 d324_25 rfl, w_aload_n0 (pc' := 27) q324 d324_26 rfl, w_iload_n2 (pc' := 28) q324 d324_27 rfl, w_invv1 (ci := 11) (pc' := 31) q324 d324_28 rfl n324_425 k324_425_11 m312.1, w_istore_n3 (pc' := 32) q324 d324_31 rfl, w_aload_n0 (pc' := 33) q324 d324_32 rfl, w_getI (pc' := 36) q324 d324_33 rfl f324_428, w_if_eq (tg := 71) (pc' := 39) q324 d324_36 (by decide) rfl, w_iload_n3 (pc' := 40) q324 d324_39 rfl, w_aload_n0 (pc' := 41) q324 d324_40 rfl, w_getI (pc' := 44) q324 d324_41 rfl f324_431, w_icmp_lt (tg := 71) (pc' := 47) q324 d324_44 (by decide) rfl, w_iload_n3 (pc' := 48) q324 d324_47 rfl, w_aload_n0 (pc' := 49) q324 d324_48 rfl, w_invv0 (ci := 11) (pc' := 52) q324 d324_49 rfl n324_434 k324_434_11 m313.1, w_icmp_ge (tg := 71) (pc' := 55) q324 d324_52 (by decide) rfl, w_aload_n0 (pc' := 56) q324 d324_55 rfl, w_iload_n2 (pc' := 57) q324 d324_56 rfl, w_aload_n0 (pc' := 58) q324 d324_57 rfl, w_iload_n2 (pc' := 59) q324 d324_58 rfl, w_iload_n3 (pc' := 60) q324 d324_59 rfl, w_iconst (pc' := 61) q324 d324_60 rfl, w_iadd (pc' := 62) q324 d324_61 rfl, w_invv2 (ci := 11) (pc' := 65) q324 d324_62 rfl n324_437 k324_437_11 m314.1, w_invv2 (ci := 11) (pc' := 68) q324 d324_65 rfl n324_471 k324_471_11 m318.1, w_goto (tg := 99) q324 d324_68 (by decide), w_aload_n0 (pc' := 72) q324 d324_71 rfl, w_getI (pc' := 75) q324 d324_72 rfl f324_428, w_if_ne (tg := 99) (pc' := 78) q324 d324_75 (by decide) rfl, w_iload_n3 (pc' := 79) q324 d324_78 rfl, w_aload_n0 (pc' := 80) q324 d324_79 rfl, w_getI (pc' := 83) q324 d324_80 rfl f324_431, w_icmp_le (tg := 99) (pc' := 86) q324 d324_83 (by decide) rfl, w_aload_n0 (pc' := 87) q324 d324_86 rfl, w_iload_n2 (pc' := 88) q324 d324_87 rfl, w_aload_n0 (pc' := 89) q324 d324_88 rfl, w_iload_n2 (pc' := 90) q324 d324_89 rfl, w_iload_n3 (pc' := 91) q324 d324_90 rfl, w_iconst (pc' := 92) q324 d324_91 rfl, w_isub (pc' := 93) q324 d324_92 rfl, w_invv2 (ci := 11) (pc' := 96) q324 d324_93 rfl n324_437 k324_437_11 m314.1, w_invv2 (ci := 11) (pc' := 99) q324 d324_96 rfl n324_471 k324_471_11 m318.1, w_iinc1 (z := (1)) (pc' := 102) q324 d324_99 rfl, w_goto (tg := 2) q324 d324_102 (by decide), gs_off, gs_off0, gs_0off, gs_2, xN_0, xN_2, xN_3, xN_6, xN_7, xN_8, xN_9, xN_10, xN_11, xN_12, xN_13, xN_14, xN_15, xN_16, xN_17, xN_18, xN_19, xN_20, xN_21, xN_22, xN_23, xN_24, xN_25, xN_26, xN_27, xN_28, xN_29, xN_30, xN_31, xN_32, xN_33, xN_34, xN_35, xN_36, xN_37, xN_38, xN_39, xN_40, xN_41, xN_42, xN_43, xN_44, xN_45, xN_46, xN_47, xN_48, xN_49, xN_50, xN_51, xN_52, xN_53, xN_54, xN_55, ti_0, ti_1, ti_2, ti_3, ti_4, ti_5, ti_6, ti_7, ti_8, ti_9, ti_10, ti_16, ti_19, ti_20, ti_29, ti_30, ti_31, ti_32, ti_35, ti_36, ti_38, ti_39, ti_40, ti_41, ti_42, ti_43, ti_44, ti_45, ti_46, ti_47, ti_48, ti_49, ti_50, ti_51, ti_52, ti_53, ti_54, ti_55, ti_56, ti_57, ti_58, ti_59, ti_60, ti_61, ti_62, ti_63, ti_64, ti_65, ti_74, ti_77, ti_126, ti_200, ti_201, ti_202, ti_203, ti_204, ti_205, ti_210, ti_255, ti_256, ti_400, ti_512, ti_600, ti_601, ti_602, ti_1000, ti_1023, ti_1024, ti_2000, ti_10000, ti_12602, ti_999999, ti_m999999, ti_m1, ti_2000000, ti_3000000, xN_1, xN_4, xN_5, xN_60, xN_61, xN_64, xN_200, xN_800, xN_12000, xN_12602, eq_self, and_self, and_true, true_and, if_true, if_false, decide_true, Nat.reduceLeDiff, xc2_int, xc2_ref, xc2_ra, xc2_null, xc2_long, xc2_none, xisaT_ref, xisaT_ra, xisaT_null, xc1T_int, xc1T_ref, xc1T_ra, xc1T_null, xsum_nil, xsum_int, xsum_ref, xsum_ra, xsum_long, xsum_double, xsum_null, xfl_nil, xfl_int, xfl_ref, xfl_ra, xfl_null, xfl_long, xfl_double, List.length_cons, List.length_nil, s0, tk, hlt, h2, h3, hal, hmo, tv, tl', tln, hc1, not_true_eq_false, not_false_eq_true, show ¬ (1 : Int) = 0 from by decide, xfk, xfv, xak, xan, xcls, xsv', List.getElem?_cons_zero, List.getElem?_cons_succ, List.getD_cons_zero, List.getD_cons_succ, Option.getD_some, Option.isSome_some, if_true, if_pos, xcont, Option.toList_none, Option.toList_some, List.nil_append, List.cons_append]
      · have hc2 : lnL b ≤ lnO b (199 - k) := by omega
        simp (config := { decide := true }) only [w_sipush (z' := (200)) (pc' := 6) q324 d324_3 rfl (by decide), w_icmp_ge (tg := 105) (pc' := 9) q324 d324_6 (by decide) rfl, w_aload_n0 (pc' := 10) q324 d324_9 rfl, w_getI (pc' := 13) q324 d324_10 rfl f324_428, w_if_eq (tg := 24) (pc' := 16) q324 d324_13 (by decide) rfl, w_sipush (z' := (199)) (pc' := 19) q324 d324_16 rfl (by decide), w_iload_n1 (pc' := 20) q324 d324_19 rfl, w_isub (pc' := 21) q324 d324_20 rfl, w_goto (tg := 25) q324 d324_21 (by decide), w_iload_n1 (pc' := 25) q324 d324_24 rfl, w_istore_n2 (pc' := 26) q324 d324_25 rfl, w_aload_n0 (pc' := 27) q324 d324_26 rfl, w_iload_n2 (pc' := 28) q324 d324_27 rfl, w_invv1 (ci := 11) (pc' := 31) q324 d324_28 rfl n324_425 k324_425_11 m312.1, w_istore_n3 (pc' := 32) q324 d324_31 rfl, w_aload_n0 (pc' := 33) q324 d324_32 rfl, w_getI (pc' := 36) q324 d324_33 rfl f324_428, w_if_eq (tg := 71) (pc' := 39) q324 d324_36 (by decide) rfl, w_iload_n3 (pc' := 40) q324 d324_39 rfl, w_aload_n0 (pc' := 41) q324 d324_40 rfl, w_getI (pc' := 44) q324 d324_41 rfl f324_431, w_icmp_lt (tg := 71) (pc' := 47) q324 d324_44 (by decide) rfl, w_iload_n3 (pc' := 48) q324 d324_47 rfl, w_aload_n0 (pc' := 49) q324 d324_48 rfl, w_invv0 (ci := 11) (pc' := 52) q324 d324_49 rfl n324_434 k324_434_11 m313.1, w_icmp_ge (tg := 71) (pc' := 55) q324 d324_52 (by decide) rfl, w_aload_n0 (pc' := 56) q324 d324_55 rfl, w_iload_n2 (pc' := 57) q324 d324_56 rfl, w_aload_n0 (pc' := 58) q324 d324_57 rfl, w_iload_n2 (pc' := 59) q324 d324_58 rfl, w_iload_n3 (pc' := 60) q324 d324_59 rfl, w_iconst (pc' := 61) q324 d324_60 rfl, w_iadd (pc' := 62) q324 d324_61 rfl, w_invv2 (ci := 11) (pc' := 65) q324 d324_62 rfl n324_437 k324_437_11 m314.1, w_invv2 (ci := 11) (pc' := 68) q324 d324_65 rfl n324_471 k324_471_11 m318.1, w_goto (tg := 99) q324 d324_68 (by decide), w_aload_n0 (pc' := 72) q324 d324_71 rfl, w_getI (pc' := 75) q324 d324_72 rfl f324_428, w_if_ne (tg := 99) (pc' := 78) q324 d324_75 (by decide) rfl, w_iload_n3 (pc' := 79) q324 d324_78 rfl, w_aload_n0 (pc' := 80) q324 d324_79 rfl, w_getI (pc' := 83) q324 d324_80 rfl f324_431, w_icmp_le (tg := 99) (pc' := 86) q324 d324_83 (by decide) rfl, w_aload_n0 (pc' := 87) q324 d324_86 rfl, w_iload_n2 (pc' := 88) q324 d324_87 rfl, w_aload_n0 (pc' := 89) q324 d324_88 rfl, w_iload_n2 (pc' := 90) q324 d324_89 rfl, w_iload_n3 (pc' := 91) q324 d324_90 rfl, w_iconst (pc' := 92) q324 d324_91 rfl, w_isub (pc' := 93) q324 d324_92 rfl, w_invv2 (ci := 11) (pc' := 96) q324 d324_93 rfl n324_437 k324_437_11 m314.1, w_invv2 (ci := 11) (pc' := 99) q324 d324_96 rfl n324_471 k324_471_11 m318.1, w_iinc1 (z := (1)) (pc' := 102) q324 d324_99 rfl, w_goto (tg := 2) q324 d324_102 (by decide), gs_off, gs_off0, gs_0off, gs_2, xN_0, xN_2, xN_3, xN_6, xN_7, xN_8, xN_9, xN_10, xN_11, xN_12, xN_13, xN_14, xN_15, xN_16, xN_17, xN_18, xN_19, xN_20, xN_21, xN_22, xN_23, xN_24, xN_25, xN_26, xN_27, xN_28, xN_29, xN_30, xN_31, xN_32, xN_33, xN_34, xN_35, xN_36, xN_37, xN_38, xN_39, xN_40, xN_41, xN_42, xN_43, xN_44, xN_45, xN_46, xN_47, xN_48, xN_49, xN_50, xN_51, xN_52, xN_53, xN_54, xN_55, ti_0, ti_1, ti_2, ti_3, ti_4, ti_5, ti_6, ti_7, ti_8, ti_9, ti_10, ti_16, ti_19, ti_20, ti_29, ti_30, ti_31, ti_32, ti_35, ti_36, ti_38, ti_39, ti_40, ti_41, ti_42, ti_43, ti_44, ti_45, ti_46, ti_47, ti_48, ti_49, ti_50, ti_51, ti_52, ti_53, ti_54, ti_55, ti_56, ti_57, ti_58, ti_59, ti_60, ti_61, ti_62, ti_63, ti_64, ti_65, ti_74, ti_77, ti_126, ti_200, ti_201, ti_202, ti_203, ti_204, ti_205, ti_210, ti_255, ti_256, ti_400, ti_512, ti_600, ti_601, ti_602, ti_1000, ti_1023, ti_1024, ti_2000, ti_10000, ti_12602, ti_999999, ti_m999999, ti_m1, ti_2000000, ti_3000000, xN_1, xN_4, xN_5, xN_60, xN_61, xN_64, xN_200, xN_800, xN_12000, xN_12602, eq_self, and_self, and_true, true_and, if_true, if_false, decide_true, Nat.reduceLeDiff, xc2_int, xc2_ref, xc2_ra, xc2_null, xc2_long, xc2_none, xisaT_ref, xisaT_ra, xisaT_null, xc1T_int, xc1T_ref, xc1T_ra, xc1T_null, xsum_nil, xsum_int, xsum_ref, xsum_ra, xsum_long, xsum_double, xsum_null, xfl_nil, xfl_int, xfl_ref, xfl_ra, xfl_null, xfl_long, xfl_double, List.length_cons, List.length_nil, s0, tk, hlt, h2, h3, hal, hmo, tv, tl', tln, hc1, hc2, not_true_eq_false, not_false_eq_true, show ¬ (1 : Int) = 0 from by decide, xfk, xfv, xak, xan, xcls, xsv', List.getElem?_cons_zero, List.getElem?_cons_succ, List.getD_cons_zero, List.getD_cons_succ, Option.getD_some, Option.isSome_some, if_true, if_pos, xcont, Option.toList_none, Option.toList_some, List.nil_append, List.cons_append]
theorem l_deShift {b ln : Int} (hS : MdS S m) (hb : b = 0 ∨ b = 1) (hl : 0 ≤ ln ∧ ln ≤ lnL b) : ∀ (n : Nat) (k : Int) (g : xGm) (y2 y3 : Option Value), k + n = 200 → 0 ≤ k → LnC g m b ln 0 → rgR (g (m + 1)) → RwA (g (m + 1)) A (deS b ln k) →
    ∃ r', rgR r' ∧ RwA r' A (deS b ln 200) ∧ ∀ Q, Wx X (d + 3) 324 2 [some (.ref m), some (.int (iI k)), y2, y3] [] (hp S g) Q = Q (.inl none) (hp S (gr g (m + 1) r')) := by
  have s0 := hS.1
  intro n
  induction n with
  | zero =>
    intro k g y2 y3 hn hk hL hG hR
    obtain rfl : k = 200 := by omega
    refine ⟨g (m + 1), hG, hR, fun Q => ?_⟩
    have e : gr g (m + 1) (g (m + 1)) = g := by
      funext h
      unfold gr
      split
      · next e => rw [e]
      · rfl
    rw [e, w_iload_n1 (pc' := 3) q324 d324_2 rfl]
    simp (config := { decide := true }) only [w_sipush (z' := (200)) (pc' := 6) q324 d324_3 rfl (by decide), w_icmp_ge (tg := 105) (pc' := 9) q324 d324_6 (by decide) rfl, w_return q324 d324_105 m324.2.1, gs_off, gs_off0, gs_0off, gs_2, xN_0, xN_2, xN_3, xN_6, xN_7, xN_8, xN_9, xN_10, xN_11, xN_12, xN_13, xN_14, xN_15, xN_16, xN_17, xN_18, xN_19, xN_20, xN_21, xN_22, xN_23, xN_24, xN_25, xN_26, xN_27, xN_28, xN_29, xN_30, xN_31, xN_32, xN_33, xN_34, xN_35, xN_36, xN_37, xN_38, xN_39, xN_40, xN_41, xN_42, xN_43, xN_44, xN_45, xN_46, xN_47, xN_48, xN_49, xN_50, xN_51, xN_52, xN_53, xN_54, xN_55, ti_0, ti_1, ti_2, ti_3, ti_4, ti_5, ti_6, ti_7, ti_8, ti_9, ti_10, ti_16, ti_19, ti_20, ti_29, ti_30, ti_31, ti_32, ti_35, ti_36, ti_38, ti_39, ti_40, ti_41, ti_42, ti_43, ti_44, ti_45, ti_46, ti_47, ti_48, ti_49, ti_50, ti_51, ti_52, ti_53, ti_54, ti_55, ti_56, ti_57, ti_58, ti_59, ti_60, ti_61, ti_62, ti_63, ti_64, ti_65, ti_74, ti_77, ti_126, ti_200, ti_201, ti_202, ti_203, ti_204, ti_205, ti_210, ti_255, ti_256, ti_400, ti_512, ti_600, ti_601, ti_602, ti_1000, ti_1023, ti_1024, ti_2000, ti_10000, ti_12602, ti_999999, ti_m999999, ti_m1, ti_2000000, ti_3000000, xN_1, xN_4, xN_5, xN_60, xN_61, xN_64, xN_200, xN_800, xN_12000, xN_12602, eq_self, and_self, and_true, true_and, if_true, if_false, decide_true, Nat.reduceLeDiff, xc2_int, xc2_ref, xc2_ra, xc2_null, xc2_long, xc2_none, xisaT_ref, xisaT_ra, xisaT_null, xc1T_int, xc1T_ref, xc1T_ra, xc1T_null, xsum_nil, xsum_int, xsum_ref, xsum_ra, xsum_long, xsum_double, xsum_null, xfl_nil, xfl_int, xfl_ref, xfl_ra, xfl_null, xfl_long, xfl_double, List.length_cons, List.length_nil, xfk, xfv, xak, xan, xcls, xsv', List.getElem?_cons_zero, List.getElem?_cons_succ, List.getD_cons_zero, List.getD_cons_succ, Option.getD_some, Option.isSome_some, if_true, if_pos, xcont, Option.toList_none, Option.toList_some, List.nil_append, List.cons_append]
  | succ n ih =>
    intro y g y2 y3 hn hk hL hG hR
    obtain ⟨h1, h2, h3⟩ := id hL
    have tk : ti y = y := ti_eq (by omega) (by omega)
    have hlt : ¬ 200 ≤ y := by omega
    have hy : 0 ≤ y ∧ y < 200 := by omega
    have hal := m_along (X := X) (d := d + 2) (g := g) (c := y) hS h1 hb hy
    have hv := lnO_rng (b := b) hy.1 hy.2
    have hT := lnT_pos (b := b)
    have tv : ti (lnO b y) = lnO b y := ti_eq (by omega) (by omega)
    have tln : ti ln = ln := ti_eq (by omega) (by omega)
    by_cases hgo : ln < lnO b y
    · obtain ⟨u1, u2, u3⟩ := ln_dn hb hy.1 hy.2 (show 0 < lnO b y by omega)
      have hwl := m_withLine (X := X) (d := d + 2) (g := g) (c := y) (v := lnO b y - 1) hS h1 hb hy
      rw [u1] at hwl
      have hmv := m_moves (X := X) (d := d) (g := g) (f := y) (t := y - lnT b) hS hy (by omega) (by omega)
      have hsy : deS b ln y y = y := by
        unfold deS
        rw [if_neg (by omega), if_neg (by omega)]
      have hR2 := RwA_mv hy (show 0 ≤ y - lnT b ∧ y - lnT b < 200 by omega) (by omega) hR (by rw [hsy]; exact hy.1)
      have hR3 : RwA (mvR (g (m + 1)) y (y - lnT b)) A (deS b ln (y + 1)) := by
        refine RwA_src hR2 (fun x x1 x2 => .inl ?_)
        by_cases e1 : x = y
        · rw [if_pos e1, e1]
          unfold deS
          rw [if_neg (by omega), if_pos (by omega)]
        · rw [if_neg e1]
          by_cases e2 : x = y - lnT b
          · rw [if_pos e2, hsy, e2]
            unfold deS
            rw [if_pos (by omega)]
            omega
          · rw [if_neg e2]
            unfold deS
            by_cases c1 : ln ≤ lnO b x ∧ lnO b x < lnL b ∧ x + lnT b < y
            · rw [if_pos c1, if_pos (by omega)]
            · have c1' : ¬ (ln ≤ lnO b x ∧ lnO b x < lnL b ∧ x + lnT b < y + 1) := by omega
              rw [if_neg c1, if_neg c1']
              by_cases c2 : (x < y ∧ ln < lnO b x) ∨ lnO b x = ln
              · have c2' : (x < y + 1 ∧ ln < lnO b x) ∨ lnO b x = ln := by omega
                rw [if_pos c2, if_pos c2']
              · have c2' : ¬ ((x < y + 1 ∧ ln < lnO b x) ∨ lnO b x = ln) := by omega
                rw [if_neg c2, if_neg c2']
      have hc1 : ¬ lnO b y ≤ ln := by omega
      obtain ⟨r', i1, i2, i3⟩ := ih (y + 1) (gr g (m + 1) (mvR (g (m + 1)) y (y - lnT b))) (some (.int (iI y))) (some (.int (iI (lnO b y)))) (by omega) (by omega) (LnC_row1 hL) (by rw [gr_hit]; exact mvR_rg hG) (by rw [gr_hit]; exact hR3)
      have egg : ∀ f, gr (gr g (m + 1) f) (m + 1) r' = gr g (m + 1) r' := fun f => by
        funext h; unfold gr; split
        · rfl
        · rfl
      rw [egg] at i3
      refine ⟨r', i1, i2, fun Q => ?_⟩
      rw [← i3 Q, w_iload_n1 (pc' := 3) q324 d324_2 rfl]
      simp (config := { decide := true }) only [w_sipush (z' := (200)) (pc' := 6) q324 d324_3 rfl (by decide), w_icmp_ge (tg := 105) (pc' := 9) q324 d324_6 (by decide) rfl, w_aload_n0 (pc' := 10) q324 d324_9 rfl, w_getI (pc' := 13) q324 d324_10 rfl f324_428, w_if_eq (tg := 24) (pc' := 16) q324 d324_13 (by decide) rfl, w_sipush (z' := (199)) (pc' := 19) q324 d324_16 rfl (by decide), w_iload_n1 (pc' := 20) q324 d324_19 rfl, w_isub (pc' := 21) q324 d324_20 rfl, w_goto (tg := 25) q324 d324_21 (by decide), w_iload_n1 (pc' := 25) q324 d324_24 rfl, w_istore_n2 (pc' := 26) q324 d324_25 rfl, w_aload_n0 (pc' := 27) q324 d324_26 rfl, w_iload_n2 (pc' := 28) q324 d324_27 rfl, w_invv1 (ci := 11) (pc' := 31) q324 d324_28 rfl n324_425 k324_425_11 m312.1, w_istore_n3 (pc' := 32) q324 d324_31 rfl, w_aload_n0 (pc' := 33) q324 d324_32 rfl, w_getI (pc' := 36) q324 d324_33 rfl f324_428, w_if_eq (tg := 71) (pc' := 39) q324 d324_36 (by decide) rfl, w_iload_n3 (pc' := 40) q324 d324_39 rfl, w_aload_n0 (pc' := 41) q324 d324_40 rfl, w_getI (pc' := 44) q324 d324_41 rfl f324_431, w_icmp_lt (tg := 71) (pc' := 47) q324 d324_44 (by decide) rfl, w_iload_n3 (pc' := 48) q324 d324_47 rfl, w_aload_n0 (pc' := 49) q324 d324_48 rfl, w_invv0 (ci := 11) (pc' := 52) q324 d324_49 rfl n324_434 k324_434_11 m313.1, w_icmp_ge (tg := 71) (pc' := 55) q324 d324_52 (by decide) rfl, w_aload_n0 (pc' := 56) q324 d324_55 rfl, w_iload_n2 (pc' := 57) q324 d324_56 rfl, w_aload_n0 (pc' := 58) q324 d324_57 rfl, w_iload_n2 (pc' := 59) q324 d324_58 rfl, w_iload_n3 (pc' := 60) q324 d324_59 rfl, w_iconst (pc' := 61) q324 d324_60 rfl, w_iadd (pc' := 62) q324 d324_61 rfl, w_invv2 (ci := 11) (pc' := 65) q324 d324_62 rfl n324_437 k324_437_11 m314.1, w_invv2 (ci := 11) (pc' := 68) q324 d324_65 rfl n324_471 k324_471_11 m318.1, w_goto (tg := 99) q324 d324_68 (by decide), w_aload_n0 (pc' := 72) q324 d324_71 rfl, w_getI (pc' := 75) q324 d324_72 rfl f324_428, w_if_ne (tg := 99) (pc' := 78) q324 d324_75 (by decide) rfl, w_iload_n3 (pc' := 79) q324 d324_78 rfl, w_aload_n0 (pc' := 80) q324 d324_79 rfl, w_getI (pc' := 83) q324 d324_80 rfl f324_431, w_icmp_le (tg := 99) (pc' := 86) q324 d324_83 (by decide) rfl, w_aload_n0 (pc' := 87) q324 d324_86 rfl, w_iload_n2 (pc' := 88) q324 d324_87 rfl, w_aload_n0 (pc' := 89) q324 d324_88 rfl, w_iload_n2 (pc' := 90) q324 d324_89 rfl, w_iload_n3 (pc' := 91) q324 d324_90 rfl, w_iconst (pc' := 92) q324 d324_91 rfl, w_isub (pc' := 93) q324 d324_92 rfl, w_invv2 (ci := 11) (pc' := 96) q324 d324_93 rfl n324_437 k324_437_11 m314.1, w_invv2 (ci := 11) (pc' := 99) q324 d324_96 rfl n324_471 k324_471_11 m318.1, w_iinc1 (z := (1)) (pc' := 102) q324 d324_99 rfl, w_goto (tg := 2) q324 d324_102 (by decide), gs_off, gs_off0, gs_0off, gs_2, xN_0, xN_2, xN_3, xN_6, xN_7, xN_8, xN_9, xN_10, xN_11, xN_12, xN_13, xN_14, xN_15, xN_16, xN_17, xN_18, xN_19, xN_20, xN_21, xN_22, xN_23, xN_24, xN_25, xN_26, xN_27, xN_28, xN_29, xN_30, xN_31, xN_32, xN_33, xN_34, xN_35, xN_36, xN_37, xN_38, xN_39, xN_40, xN_41, xN_42, xN_43, xN_44, xN_45, xN_46, xN_47, xN_48, xN_49, xN_50, xN_51, xN_52, xN_53, xN_54, xN_55, ti_0, ti_1, ti_2, ti_3, ti_4, ti_5, ti_6, ti_7, ti_8, ti_9, ti_10, ti_16, ti_19, ti_20, ti_29, ti_30, ti_31, ti_32, ti_35, ti_36, ti_38, ti_39, ti_40, ti_41, ti_42, ti_43, ti_44, ti_45, ti_46, ti_47, ti_48, ti_49, ti_50, ti_51, ti_52, ti_53, ti_54, ti_55, ti_56, ti_57, ti_58, ti_59, ti_60, ti_61, ti_62, ti_63, ti_64, ti_65, ti_74, ti_77, ti_126, ti_200, ti_201, ti_202, ti_203, ti_204, ti_205, ti_210, ti_255, ti_256, ti_400, ti_512, ti_600, ti_601, ti_602, ti_1000, ti_1023, ti_1024, ti_2000, ti_10000, ti_12602, ti_999999, ti_m999999, ti_m1, ti_2000000, ti_3000000, xN_1, xN_4, xN_5, xN_60, xN_61, xN_64, xN_200, xN_800, xN_12000, xN_12602, eq_self, and_self, and_true, true_and, if_true, if_false, decide_true, Nat.reduceLeDiff, xc2_int, xc2_ref, xc2_ra, xc2_null, xc2_long, xc2_none, xisaT_ref, xisaT_ra, xisaT_null, xc1T_int, xc1T_ref, xc1T_ra, xc1T_null, xsum_nil, xsum_int, xsum_ref, xsum_ra, xsum_long, xsum_double, xsum_null, xfl_nil, xfl_int, xfl_ref, xfl_ra, xfl_null, xfl_long, xfl_double, List.length_cons, List.length_nil, s0, tk, hlt, h2, h3, hal, tv, tln, hc1, hwl, hmv, not_true_eq_false, xfk, xfv, xak, xan, xcls, xsv', List.getElem?_cons_zero, List.getElem?_cons_succ, List.getD_cons_zero, List.getD_cons_succ, Option.getD_some, Option.isSome_some, if_true, if_pos, xcont, Option.toList_none, Option.toList_some, List.nil_append, List.cons_append]
    · have hR3 : RwA (g (m + 1)) A (deS b ln (y + 1)) := by
        refine RwA_src hR (fun x x1 x2 => .inl ?_)
        unfold deS
        by_cases c1 : ln ≤ lnO b x ∧ lnO b x < lnL b ∧ x + lnT b < y
        · rw [if_pos c1, if_pos (by omega)]
        · have c1' : ¬ (ln ≤ lnO b x ∧ lnO b x < lnL b ∧ x + lnT b < y + 1) := by
            rintro ⟨a1, a2, a3⟩
            obtain ⟨d1, d2, d3⟩ := ln_up (b := b) hb x1 x2 a2
            have exy : x + lnT b = y := by omega
            rw [exy] at d3
            omega
          rw [if_neg c1, if_neg c1']
          by_cases c2 : (x < y ∧ ln < lnO b x) ∨ lnO b x = ln
          · rw [if_pos c2, if_pos (by omega)]
          · have c2' : ¬ ((x < y + 1 ∧ ln < lnO b x) ∨ lnO b x = ln) := by
              rintro (⟨a1, a2⟩ | a1)
              · have ex : x = y := by omega
                subst ex
                exact hgo a2
              · exact c2 (.inr a1)
            rw [if_neg c2, if_neg c2']
      have hc1 : lnO b y ≤ ln := by omega
      obtain ⟨r', i1, i2, i3⟩ := ih (y + 1) g (some (.int (iI y))) (some (.int (iI (lnO b y)))) (by omega) (by omega) hL hG hR3
      refine ⟨r', i1, i2, fun Q => ?_⟩
      rw [← i3 Q, w_iload_n1 (pc' := 3) q324 d324_2 rfl]
      simp (config := { decide := true }) only [w_sipush (z' := (200)) (pc' := 6) q324 d324_3 rfl (by decide), w_icmp_ge (tg := 105) (pc' := 9) q324 d324_6 (by decide) rfl, w_aload_n0 (pc' := 10) q324 d324_9 rfl, w_getI (pc' := 13) q324 d324_10 rfl f324_428, w_if_eq (tg := 24) (pc' := 16) q324 d324_13 (by decide) rfl, w_sipush (z' := (199)) (pc' := 19) q324 d324_16 rfl (by decide), w_iload_n1 (pc' := 20) q324 d324_19 rfl, w_isub (pc' := 21) q324 d324_20 rfl, w_goto (tg := 25) q324 d324_21 (by decide), w_iload_n1 (pc' := 25) q324 d324_24 rfl, w_istore_n2 (pc' := 26) q324 d324_25 rfl, w_aload_n0 (pc' := 27) q324 d324_26 rfl, w_iload_n2 (pc' := 28) q324 d324_27 rfl, w_invv1 (ci := 11) (pc' := 31) q324 d324_28 rfl n324_425 k324_425_11 m312.1, w_istore_n3 (pc' := 32) q324 d324_31 rfl, w_aload_n0 (pc' := 33) q324 d324_32 rfl, w_getI (pc' := 36) q324 d324_33 rfl f324_428, w_if_eq (tg := 71) (pc' := 39) q324 d324_36 (by decide) rfl, w_iload_n3 (pc' := 40) q324 d324_39 rfl, w_aload_n0 (pc' := 41) q324 d324_40 rfl, w_getI (pc' := 44) q324 d324_41 rfl f324_431, w_icmp_lt (tg := 71) (pc' := 47) q324 d324_44 (by decide) rfl, w_iload_n3 (pc' := 48) q324 d324_47 rfl, w_aload_n0 (pc' := 49) q324 d324_48 rfl, w_invv0 (ci := 11) (pc' := 52) q324 d324_49 rfl n324_434 k324_434_11 m313.1, w_icmp_ge (tg := 71) (pc' := 55) q324 d324_52 (by decide) rfl, w_aload_n0 (pc' := 56) q324 d324_55 rfl, w_iload_n2 (pc' := 57) q324 d324_56 rfl, w_aload_n0 (pc' := 58) q324 d324_57 rfl, w_iload_n2 (pc' := 59) q324 d324_58 rfl, w_iload_n3 (pc' := 60) q324 d324_59 rfl, w_iconst (pc' := 61) q324 d324_60 rfl, w_iadd (pc' := 62) q324 d324_61 rfl, w_invv2 (ci := 11) (pc' := 65) q324 d324_62 rfl n324_437 k324_437_11 m314.1, w_invv2 (ci := 11) (pc' := 68) q324 d324_65 rfl n324_471 k324_471_11 m318.1, w_goto (tg := 99) q324 d324_68 (by decide), w_aload_n0 (pc' := 72) q324 d324_71 rfl, w_getI (pc' := 75) q324 d324_72 rfl f324_428, w_if_ne (tg := 99) (pc' := 78) q324 d324_75 (by decide) rfl, w_iload_n3 (pc' := 79) q324 d324_78 rfl, w_aload_n0 (pc' := 80) q324 d324_79 rfl, w_getI (pc' := 83) q324 d324_80 rfl f324_431, w_icmp_le (tg := 99) (pc' := 86) q324 d324_83 (by decide) rfl, w_aload_n0 (pc' := 87) q324 d324_86 rfl, w_iload_n2 (pc' := 88) q324 d324_87 rfl, w_aload_n0 (pc' := 89) q324 d324_88 rfl, w_iload_n2 (pc' := 90) q324 d324_89 rfl, w_iload_n3 (pc' := 91) q324 d324_90 rfl, w_iconst (pc' := 92) q324 d324_91 rfl, w_isub (pc' := 93) q324 d324_92 rfl, w_invv2 (ci := 11) (pc' := 96) q324 d324_93 rfl n324_437 k324_437_11 m314.1, w_invv2 (ci := 11) (pc' := 99) q324 d324_96 rfl n324_471 k324_471_11 m318.1, w_iinc1 (z := (1)) (pc' := 102) q324 d324_99 rfl, w_goto (tg := 2) q324 d324_102 (by decide), gs_off, gs_off0, gs_0off, gs_2, xN_0, xN_2, xN_3, xN_6, xN_7, xN_8, xN_9, xN_10, xN_11, xN_12, xN_13, xN_14, xN_15, xN_16, xN_17, xN_18, xN_19, xN_20, xN_21, xN_22, xN_23, xN_24, xN_25, xN_26, xN_27, xN_28, xN_29, xN_30, xN_31, xN_32, xN_33, xN_34, xN_35, xN_36, xN_37, xN_38, xN_39, xN_40, xN_41, xN_42, xN_43, xN_44, xN_45, xN_46, xN_47, xN_48, xN_49, xN_50, xN_51, xN_52, xN_53, xN_54, xN_55, ti_0, ti_1, ti_2, ti_3, ti_4, ti_5, ti_6, ti_7, ti_8, ti_9, ti_10, ti_16, ti_19, ti_20, ti_29, ti_30, ti_31, ti_32, ti_35, ti_36, ti_38, ti_39, ti_40, ti_41, ti_42, ti_43, ti_44, ti_45, ti_46, ti_47, ti_48, ti_49, ti_50, ti_51, ti_52, ti_53, ti_54, ti_55, ti_56, ti_57, ti_58, ti_59, ti_60, ti_61, ti_62, ti_63, ti_64, ti_65, ti_74, ti_77, ti_126, ti_200, ti_201, ti_202, ti_203, ti_204, ti_205, ti_210, ti_255, ti_256, ti_400, ti_512, ti_600, ti_601, ti_602, ti_1000, ti_1023, ti_1024, ti_2000, ti_10000, ti_12602, ti_999999, ti_m999999, ti_m1, ti_2000000, ti_3000000, xN_1, xN_4, xN_5, xN_60, xN_61, xN_64, xN_200, xN_800, xN_12000, xN_12602, eq_self, and_self, and_true, true_and, if_true, if_false, decide_true, Nat.reduceLeDiff, xc2_int, xc2_ref, xc2_ra, xc2_null, xc2_long, xc2_none, xisaT_ref, xisaT_ra, xisaT_null, xc1T_int, xc1T_ref, xc1T_ra, xc1T_null, xsum_nil, xsum_int, xsum_ref, xsum_ra, xsum_long, xsum_double, xsum_null, xfl_nil, xfl_int, xfl_ref, xfl_ra, xfl_null, xfl_long, xfl_double, List.length_cons, List.length_nil, s0, tk, hlt, h2, h3, hal, tv, tln, hc1, not_true_eq_false, not_false_eq_true, xfk, xfv, xak, xan, xcls, xsv', List.getElem?_cons_zero, List.getElem?_cons_succ, List.getD_cons_zero, List.getD_cons_succ, Option.getD_some, Option.isSome_some, if_true, if_pos, xcont, Option.toList_none, Option.toList_some, List.nil_append, List.cons_append]
end
