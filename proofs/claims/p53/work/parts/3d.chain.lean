/-! Links: chains -/
section
variable {X : xX} {d : Nat} {S : xLm} {g : xGm} {Q : xO → xH → Prop}
def ChS (R : Int → Int → Prop) (r ln : Int → Int) (p : Int) : Prop :=
  ∀ i, 0 ≤ i → i < p → 1 ≤ ln (r i) ∧ ln (r i) ≤ i + 1 ∧ (ln (r i) = 1 ∨ ∃ q, 0 ≤ q ∧ q < i ∧ R (r i) (r q) ∧ ln (r q) = ln (r i) - 1) ∧ ∀ q, 0 ≤ q → q < i → R (r i) (r q) → ln (r q) ≤ ln (r i) - 1
theorem ChS_uniq {R R' : Int → Int → Prop} {r r' ln ln' : Int → Int} {p : Int} (hr : ∀ i, 0 ≤ i → i < p → r i = r' i) (hR : ∀ i q, 0 ≤ i → i < p → 0 ≤ q → q < i → (R (r i) (r q) ↔ R' (r i) (r q))) (h : ChS R r ln p) (h' : ChS R' r' ln' p) : ∀ i, 0 ≤ i → i < p → ln (r i) = ln' (r i) := by
  have key : ∀ m : Nat, ∀ i : Int, 0 ≤ i → i < m → i < p → ln (r i) = ln' (r i) := by
    intro m
    induction m with
    | zero => intro i h1 h2; omega
    | succ m ih =>
      intro i h1 h2 h3
      obtain ⟨a1, a2, a3, a4⟩ := h i h1 h3
      obtain ⟨b1, b2, b3, b4⟩ := h' i h1 h3
      rw [← hr i h1 h3] at b1 b2 b3 b4
      have u1 : ln (r i) ≤ ln' (r i) := by
        rcases a3 with e | ⟨q, q1, q2, q3, q4⟩
        · omega
        · have e1 := ih q q1 (by omega) (by omega)
          have e2 := b4 q q1 q2 (by rw [← hr q q1 (by omega)]; exact (hR i q h1 h3 q1 q2).mp q3)
          rw [← hr q q1 (by omega)] at e2
          omega
      have u2 : ln' (r i) ≤ ln (r i) := by
        rcases b3 with e | ⟨q, q1, q2, q3, q4⟩
        · omega
        · rw [← hr q q1 (by omega)] at q3 q4
          have e1 := ih q q1 (by omega) (by omega)
          have e2 := a4 q q1 q2 ((hR i q h1 h3 q1 q2).mpr q3)
          omega
      omega
  exact fun i h1 h2 => key (i.toNat + 1) i h1 (by omega) h2
theorem l_longest {l : Nat} {c p : Int} (hS : LkS S l) (hp0 : 0 ≤ p) (hp2 : p < 200) (hO : rg g (l + 3) 0 199) (hL : ∀ q, 0 ≤ q → q < p → 0 ≤ g (l + 8) (g (l + 3) q) ∧ g (l + 8) (g (l + 3) q) ≤ 200) : ∀ (m : Nat) (e z : Int), e + m = p → 0 ≤ e → 0 ≤ z → z ≤ 200 →
    ∃ z', 0 ≤ z' ∧ z' ≤ 200 ∧ z ≤ z' ∧ (z' = z ∨ ∃ q, e ≤ q ∧ q < p ∧ bt (g (l + 1)) (g (l + 3) p) (g (l + 3) q) = true ∧ g (l + 8) (g (l + 3) q) = z') ∧ (∀ q, e ≤ q → q < p → bt (g (l + 1)) (g (l + 3) p) (g (l + 3) q) = true → g (l + 8) (g (l + 3) q) ≤ z') ∧
      ∀ Q, Wx X (d + 1) 117 26 [some (.ref l), some (.int (iI c)), some (.int (iI p)), some (.int (iI z)), some (.int (iI e))] [] (hp S g) Q = Wx X (d + 1) 117 75 [some (.ref l), some (.int (iI c)), some (.int (iI p)), some (.int (iI z')), some (.int (iI p))] [] (hp S g) Q := by
  have hS' := hS
  obtain ⟨h0, h1, h2, h3, h4, h5, h6, h7, h8⟩ := hS'
  have tp : ti p = p := ti_eq (by omega) (by omega)
  have fp := hO p
  have fp2 : g (l + 3) p < 200 := by omega
  intro m
  induction m with
  | zero =>
    intro e z he h hz hz2
    obtain rfl : e = p := by omega
    refine ⟨z, hz, hz2, Int.le_refl _, .inl rfl, fun q q1 q2 => by omega, fun Q => ?_⟩
    rw [w_iload4 (pc' := 28) q117 d117_26 rfl]
    simp (config := { decide := true }) only [w_iload_n2 (pc' := 29) q117 d117_28 rfl, w_icmp_ge (tg := 75) (pc' := 32) q117 d117_29 (by decide) rfl, gs_off, gs_off0, gs_0off, gs_2, xN_0, xN_2, xN_3, xN_6, xN_7, xN_8, xN_9, xN_10, xN_11, xN_12, xN_13, xN_14, xN_15, xN_16, xN_17, xN_18, xN_19, xN_20, xN_21, xN_22, xN_23, xN_24, xN_25, xN_26, xN_27, xN_28, xN_29, xN_30, xN_31, xN_32, xN_33, xN_34, xN_35, xN_36, xN_37, xN_38, xN_39, xN_40, xN_41, xN_42, xN_43, xN_44, xN_45, xN_46, xN_47, xN_48, xN_49, xN_50, xN_51, xN_52, xN_53, xN_54, xN_55, ti_0, ti_1, ti_2, ti_3, ti_4, ti_5, ti_6, ti_7, ti_8, ti_9, ti_10, ti_16, ti_19, ti_20, ti_29, ti_30, ti_31, ti_32, ti_35, ti_36, ti_38, ti_39, ti_40, ti_41, ti_42, ti_43, ti_44, ti_45, ti_46, ti_47, ti_48, ti_49, ti_50, ti_51, ti_52, ti_53, ti_54, ti_55, ti_56, ti_57, ti_58, ti_59, ti_60, ti_61, ti_62, ti_63, ti_64, ti_65, ti_74, ti_77, ti_126, ti_200, ti_201, ti_202, ti_203, ti_204, ti_205, ti_210, ti_255, ti_256, ti_400, ti_512, ti_600, ti_601, ti_602, ti_1000, ti_1023, ti_1024, ti_2000, ti_10000, ti_12602, ti_999999, ti_m999999, ti_m1, ti_2000000, ti_3000000, xN_1, xN_4, xN_5, xN_60, xN_61, xN_64, xN_200, xN_800, xN_12000, xN_12602, eq_self, and_self, and_true, true_and, if_true, if_false, decide_true, Nat.reduceLeDiff, xc2_int, xc2_ref, xc2_ra, xc2_null, xc2_long, xc2_none, xisaT_ref, xisaT_ra, xisaT_null, xc1T_int, xc1T_ref, xc1T_ra, xc1T_null, xsum_nil, xsum_int, xsum_ref, xsum_ra, xsum_long, xsum_double, xsum_null, xfl_nil, xfl_int, xfl_ref, xfl_ra, xfl_null, xfl_long, xfl_double, List.length_cons, List.length_nil, tp, Int.le_refl, xfk, xfv, xak, xan, xcls, xsv', List.getElem?_cons_zero, List.getElem?_cons_succ, List.getD_cons_zero, List.getD_cons_succ, Option.getD_some, Option.isSome_some, if_true, if_pos, xcont, Option.toList_none, Option.toList_some, List.nil_append, List.cons_append]
  | succ m ih =>
    intro e z he h hz hz2
    have te : ti e = e := ti_eq (by omega) (by omega)
    have hlt : ¬ p ≤ e := by omega
    have b2 : e < 200 := by omega
    have f := hO e
    have f2 : g (l + 3) e < 200 := by omega
    have tf : ti (g (l + 3) e) = g (l + 3) e := ti_eq (by omega) (by omega)
    have hl := hL e h (by omega)
    have tl' : ti (g (l + 8) (g (l + 3) e)) = g (l + 8) (g (l + 3) e) := ti_eq (by omega) (by omega)
    have tz : ti z = z := ti_eq (by omega) (by omega)
    by_cases hb : bt (g (l + 1)) (g (l + 3) p) (g (l + 3) e) = true
    · obtain ⟨z1, ez1, hz1⟩ : ∃ z1, (if z < g (l + 8) (g (l + 3) e) then g (l + 8) (g (l + 3) e) else z) = z1 ∧ (z ≤ z1 ∧ g (l + 8) (g (l + 3) e) ≤ z1 ∧ (z1 = z ∨ z1 = g (l + 8) (g (l + 3) e))) := ⟨_, rfl, by split <;> omega⟩
      obtain ⟨z', k1, k2, k3, k4, k5, k6⟩ := ih (e + 1) z1 (by omega) (by omega) (by omega) (by omega)
      refine ⟨z', k1, k2, by omega, ?_, fun q q1 q2 q3 => ?_, fun Q => ?_⟩
      · rcases k4 with e1 | ⟨q, q1, q2, q3⟩
        · rcases hz1.2.2 with e2 | e2
          · exact .inl (by omega)
          · exact .inr ⟨e, Int.le_refl _, by omega, hb, by omega⟩
        · exact .inr ⟨q, by omega, q2, q3⟩
      · by_cases e1 : q = e
        · subst e1; omega
        · exact k5 q (by omega) q2 q3
      · rw [w_iload4 (pc' := 28) q117 d117_26 rfl]
        simp (config := { decide := true }) only [w_iload_n2 (pc' := 29) q117 d117_28 rfl, w_icmp_ge (tg := 75) (pc' := 32) q117 d117_29 (by decide) rfl, w_aload_n0 (pc' := 33) q117 d117_32 rfl, w_aload_n0 (pc' := 34) q117 d117_33 rfl, w_getV (pc' := 37) q117 d117_34 rfl f117_19, w_iload_n2 (pc' := 38) q117 d117_37 rfl, w_iaload (pc' := 39) q117 d117_38 rfl, w_aload_n0 (pc' := 40) q117 d117_39 rfl, w_getV (pc' := 43) q117 d117_40 rfl f117_19, w_iload4 (pc' := 45) q117 d117_43 rfl, w_iaload (pc' := 46) q117 d117_45 rfl, w_invv2 (ci := 6) (pc' := 49) q117 d117_46 rfl n117_105 k117_105_6 m106.1, w_if_eq (tg := 69) (pc' := 52) q117 d117_49 (by decide) rfl, w_iload_n3 (pc' := 53) q117 d117_52 rfl, w_aload_n0 (pc' := 54) q117 d117_53 rfl, w_getV (pc' := 57) q117 d117_54 rfl f117_35, w_aload_n0 (pc' := 58) q117 d117_57 rfl, w_getV (pc' := 61) q117 d117_58 rfl f117_19, w_iload4 (pc' := 63) q117 d117_61 rfl, w_iaload (pc' := 64) q117 d117_63 rfl, w_iaload (pc' := 65) q117 d117_64 rfl, w_invs2 (pc' := 68) q117 d117_65 rfl (by decide +kernel) k117_86_99 m410.1, w_istore_n3 (pc' := 69) q117 d117_68 rfl, w_iinc4 (z := (1)) (pc' := 72) q117 d117_69 rfl, w_goto (tg := 26) q117 d117_72 (by decide), gs_off, gs_off0, gs_0off, gs_2, xN_0, xN_2, xN_3, xN_6, xN_7, xN_8, xN_9, xN_10, xN_11, xN_12, xN_13, xN_14, xN_15, xN_16, xN_17, xN_18, xN_19, xN_20, xN_21, xN_22, xN_23, xN_24, xN_25, xN_26, xN_27, xN_28, xN_29, xN_30, xN_31, xN_32, xN_33, xN_34, xN_35, xN_36, xN_37, xN_38, xN_39, xN_40, xN_41, xN_42, xN_43, xN_44, xN_45, xN_46, xN_47, xN_48, xN_49, xN_50, xN_51, xN_52, xN_53, xN_54, xN_55, ti_0, ti_1, ti_2, ti_3, ti_4, ti_5, ti_6, ti_7, ti_8, ti_9, ti_10, ti_16, ti_19, ti_20, ti_29, ti_30, ti_31, ti_32, ti_35, ti_36, ti_38, ti_39, ti_40, ti_41, ti_42, ti_43, ti_44, ti_45, ti_46, ti_47, ti_48, ti_49, ti_50, ti_51, ti_52, ti_53, ti_54, ti_55, ti_56, ti_57, ti_58, ti_59, ti_60, ti_61, ti_62, ti_63, ti_64, ti_65, ti_74, ti_77, ti_126, ti_200, ti_201, ti_202, ti_203, ti_204, ti_205, ti_210, ti_255, ti_256, ti_400, ti_512, ti_600, ti_601, ti_602, ti_1000, ti_1023, ti_1024, ti_2000, ti_10000, ti_12602, ti_999999, ti_m999999, ti_m1, ti_2000000, ti_3000000, xN_1, xN_4, xN_5, xN_60, xN_61, xN_64, xN_200, xN_800, xN_12000, xN_12602, eq_self, and_self, and_true, true_and, if_true, if_false, decide_true, Nat.reduceLeDiff, xc2_int, xc2_ref, xc2_ra, xc2_null, xc2_long, xc2_none, xisaT_ref, xisaT_ra, xisaT_null, xc1T_int, xc1T_ref, xc1T_ra, xc1T_null, xsum_nil, xsum_int, xsum_ref, xsum_ra, xsum_long, xsum_double, xsum_null, xfl_nil, xfl_int, xfl_ref, xfl_ra, xfl_null, xfl_long, xfl_double, List.length_cons, List.length_nil, h0, h3, h8, tp, te, hlt, h, b2, hp0, hp2, f.1, f2, tf, tz, tl', c_refers hS fp.1 fp2 f.1 f2, hb, c_max, ez1, xfk, xfv, xak, xan, xcls, xsv', List.getElem?_cons_zero, List.getElem?_cons_succ, List.getD_cons_zero, List.getD_cons_succ, Option.getD_some, Option.isSome_some, if_true, if_pos, xcont, Option.toList_none, Option.toList_some, List.nil_append, List.cons_append]
        exact k6 Q
    · obtain ⟨z', k1, k2, k3, k4, k5, k6⟩ := ih (e + 1) z (by omega) (by omega) (by omega) (by omega)
      refine ⟨z', k1, k2, by omega, ?_, fun q q1 q2 q3 => ?_, fun Q => ?_⟩
      · rcases k4 with e1 | ⟨q, q1, q2, q3⟩
        · exact .inl e1
        · exact .inr ⟨q, by omega, q2, q3⟩
      · by_cases e1 : q = e
        · subst e1; exact absurd q3 hb
        · exact k5 q (by omega) q2 q3
      · rw [w_iload4 (pc' := 28) q117 d117_26 rfl]
        simp (config := { decide := true }) only [w_iload_n2 (pc' := 29) q117 d117_28 rfl, w_icmp_ge (tg := 75) (pc' := 32) q117 d117_29 (by decide) rfl, w_aload_n0 (pc' := 33) q117 d117_32 rfl, w_aload_n0 (pc' := 34) q117 d117_33 rfl, w_getV (pc' := 37) q117 d117_34 rfl f117_19, w_iload_n2 (pc' := 38) q117 d117_37 rfl, w_iaload (pc' := 39) q117 d117_38 rfl, w_aload_n0 (pc' := 40) q117 d117_39 rfl, w_getV (pc' := 43) q117 d117_40 rfl f117_19, w_iload4 (pc' := 45) q117 d117_43 rfl, w_iaload (pc' := 46) q117 d117_45 rfl, w_invv2 (ci := 6) (pc' := 49) q117 d117_46 rfl n117_105 k117_105_6 m106.1, w_if_eq (tg := 69) (pc' := 52) q117 d117_49 (by decide) rfl, w_iload_n3 (pc' := 53) q117 d117_52 rfl, w_aload_n0 (pc' := 54) q117 d117_53 rfl, w_getV (pc' := 57) q117 d117_54 rfl f117_35, w_aload_n0 (pc' := 58) q117 d117_57 rfl, w_getV (pc' := 61) q117 d117_58 rfl f117_19, w_iload4 (pc' := 63) q117 d117_61 rfl, w_iaload (pc' := 64) q117 d117_63 rfl, w_iaload (pc' := 65) q117 d117_64 rfl, w_invs2 (pc' := 68) q117 d117_65 rfl (by decide +kernel) k117_86_99 m410.1, w_istore_n3 (pc' := 69) q117 d117_68 rfl, w_iinc4 (z := (1)) (pc' := 72) q117 d117_69 rfl, w_goto (tg := 26) q117 d117_72 (by decide), gs_off, gs_off0, gs_0off, gs_2, xN_0, xN_2, xN_3, xN_6, xN_7, xN_8, xN_9, xN_10, xN_11, xN_12, xN_13, xN_14, xN_15, xN_16, xN_17, xN_18, xN_19, xN_20, xN_21, xN_22, xN_23, xN_24, xN_25, xN_26, xN_27, xN_28, xN_29, xN_30, xN_31, xN_32, xN_33, xN_34, xN_35, xN_36, xN_37, xN_38, xN_39, xN_40, xN_41, xN_42, xN_43, xN_44, xN_45, xN_46, xN_47, xN_48, xN_49, xN_50, xN_51, xN_52, xN_53, xN_54, xN_55, ti_0, ti_1, ti_2, ti_3, ti_4, ti_5, ti_6, ti_7, ti_8, ti_9, ti_10, ti_16, ti_19, ti_20, ti_29, ti_30, ti_31, ti_32, ti_35, ti_36, ti_38, ti_39, ti_40, ti_41, ti_42, ti_43, ti_44, ti_45, ti_46, ti_47, ti_48, ti_49, ti_50, ti_51, ti_52, ti_53, ti_54, ti_55, ti_56, ti_57, ti_58, ti_59, ti_60, ti_61, ti_62, ti_63, ti_64, ti_65, ti_74, ti_77, ti_126, ti_200, ti_201, ti_202, ti_203, ti_204, ti_205, ti_210, ti_255, ti_256, ti_400, ti_512, ti_600, ti_601, ti_602, ti_1000, ti_1023, ti_1024, ti_2000, ti_10000, ti_12602, ti_999999, ti_m999999, ti_m1, ti_2000000, ti_3000000, xN_1, xN_4, xN_5, xN_60, xN_61, xN_64, xN_200, xN_800, xN_12000, xN_12602, eq_self, and_self, and_true, true_and, if_true, if_false, decide_true, Nat.reduceLeDiff, xc2_int, xc2_ref, xc2_ra, xc2_null, xc2_long, xc2_none, xisaT_ref, xisaT_ra, xisaT_null, xc1T_int, xc1T_ref, xc1T_ra, xc1T_null, xsum_nil, xsum_int, xsum_ref, xsum_ra, xsum_long, xsum_double, xsum_null, xfl_nil, xfl_int, xfl_ref, xfl_ra, xfl_null, xfl_long, xfl_double, List.length_cons, List.length_nil, h0, h3, h8, tp, te, hlt, h, b2, hp0, hp2, f.1, f2, tf, tz, tl', c_refers hS fp.1 fp2 f.1 f2, hb, xfk, xfv, xak, xan, xcls, xsv', List.getElem?_cons_zero, List.getElem?_cons_succ, List.getD_cons_zero, List.getD_cons_succ, Option.getD_some, Option.isSome_some, if_true, if_pos, xcont, Option.toList_none, Option.toList_some, List.nil_append, List.cons_append]
        exact k6 Q
theorem l_chain {l : Nat} {c n : Int} {F : Int → Bool} {R : Int → Int → Prop} (hS : LkS S l) (hn2 : n ≤ 200) : ∀ (m : Nat) (p : Int) (g : xGm) (y3 y4 : Option Value), g l 4 = n → rg g (l + 3) 0 199 → OdF F R (g (l + 3)) n → (∀ c o, 0 ≤ c → c < 200 → 0 ≤ o → o < 200 → (R c o ↔ bt (g (l + 1)) c o = true)) → ChS R (g (l + 3)) (g (l + 8)) p → p + m = n → 0 ≤ p →
    ∃ g' y3' y4', (∀ h, ¬ h = l + 8 → g' h = g h) ∧ ChS R (g (l + 3)) (g' (l + 8)) n ∧ ∀ Q, Wx X (d + 1) 117 13 [some (.ref l), some (.int (iI c)), some (.int (iI p)), y3, y4] [] (hp S g) Q = Wx X (d + 1) 117 95 [some (.ref l), some (.int (iI c)), some (.int (iI n)), y3', y4'] [] (hp S g') Q := by
  have hS' := hS
  obtain ⟨h0, h1, h2, h3, h4, h5, h6, h7, h8⟩ := hS'
  intro m
  induction m with
  | zero =>
    intro p g y3 y4 hn hO hF hR hC hm h
    obtain rfl : p = n := by omega
    have tp : ti p = p := ti_eq (by omega) (by omega)
    refine ⟨g, y3, y4, fun _ _ => rfl, hC, fun Q => ?_⟩
    rw [w_iload_n2 (pc' := 14) q117 d117_13 rfl]
    simp (config := { decide := true }) only [w_aload_n0 (pc' := 15) q117 d117_14 rfl, w_getI (pc' := 18) q117 d117_15 rfl f117_95, w_icmp_ge (tg := 95) (pc' := 21) q117 d117_18 (by decide) rfl, gs_off, gs_off0, gs_0off, gs_2, xN_0, xN_2, xN_3, xN_6, xN_7, xN_8, xN_9, xN_10, xN_11, xN_12, xN_13, xN_14, xN_15, xN_16, xN_17, xN_18, xN_19, xN_20, xN_21, xN_22, xN_23, xN_24, xN_25, xN_26, xN_27, xN_28, xN_29, xN_30, xN_31, xN_32, xN_33, xN_34, xN_35, xN_36, xN_37, xN_38, xN_39, xN_40, xN_41, xN_42, xN_43, xN_44, xN_45, xN_46, xN_47, xN_48, xN_49, xN_50, xN_51, xN_52, xN_53, xN_54, xN_55, ti_0, ti_1, ti_2, ti_3, ti_4, ti_5, ti_6, ti_7, ti_8, ti_9, ti_10, ti_16, ti_19, ti_20, ti_29, ti_30, ti_31, ti_32, ti_35, ti_36, ti_38, ti_39, ti_40, ti_41, ti_42, ti_43, ti_44, ti_45, ti_46, ti_47, ti_48, ti_49, ti_50, ti_51, ti_52, ti_53, ti_54, ti_55, ti_56, ti_57, ti_58, ti_59, ti_60, ti_61, ti_62, ti_63, ti_64, ti_65, ti_74, ti_77, ti_126, ti_200, ti_201, ti_202, ti_203, ti_204, ti_205, ti_210, ti_255, ti_256, ti_400, ti_512, ti_600, ti_601, ti_602, ti_1000, ti_1023, ti_1024, ti_2000, ti_10000, ti_12602, ti_999999, ti_m999999, ti_m1, ti_2000000, ti_3000000, xN_1, xN_4, xN_5, xN_60, xN_61, xN_64, xN_200, xN_800, xN_12000, xN_12602, eq_self, and_self, and_true, true_and, if_true, if_false, decide_true, Nat.reduceLeDiff, xc2_int, xc2_ref, xc2_ra, xc2_null, xc2_long, xc2_none, xisaT_ref, xisaT_ra, xisaT_null, xc1T_int, xc1T_ref, xc1T_ra, xc1T_null, xsum_nil, xsum_int, xsum_ref, xsum_ra, xsum_long, xsum_double, xsum_null, xfl_nil, xfl_int, xfl_ref, xfl_ra, xfl_null, xfl_long, xfl_double, List.length_cons, List.length_nil, h0, hn, tp, Int.le_refl, xfk, xfv, xak, xan, xcls, xsv', List.getElem?_cons_zero, List.getElem?_cons_succ, List.getD_cons_zero, List.getD_cons_succ, Option.getD_some, Option.isSome_some, if_true, if_pos, xcont, Option.toList_none, Option.toList_some, List.nil_append, List.cons_append]
  | succ m ih =>
    intro p g y3 y4 hn hO hF hR hC hm h
    have tp : ti p = p := ti_eq (by omega) (by omega)
    have tn : ti n = n := ti_eq (by omega) (by omega)
    have hlt : ¬ n ≤ p := by omega
    have b2 : p < 200 := by omega
    have f := hO p
    have f2 : g (l + 3) p < 200 := by omega
    have tf : ti (g (l + 3) p) = g (l + 3) p := ti_eq (by omega) (by omega)
    obtain ⟨z', k1, k2, k3, k4, k5, k6⟩ := l_longest (X := X) (d := d) (c := c) hS h b2 hO (fun q q1 q2 => by have := hC q q1 q2; omega) p.toNat 0 0 (by omega) (by omega) (by omega) (by omega)
    obtain ⟨g1, eg1⟩ : ∃ g1, g1 = gs g (l + 8) (g (l + 3) p) (z' + 1) := ⟨_, rfl⟩
    have r1 : ∀ h', ¬ h' = l + 8 → g1 h' = g h' := fun h' hh => by rw [eg1]; exact gs_row _ _ _ hh
    obtain ⟨f1, f2', f3, f4, f5⟩ := OdF_at hF h (by omega)
    have hC1 : ChS R (g1 (l + 3)) (g1 (l + 8)) (p + 1) := by
      rw [r1 _ (by omega)]
      intro i i1 i2
      have er : ∀ q, 0 ≤ q → q < p → g1 (l + 8) (g (l + 3) q) = g (l + 8) (g (l + 3) q) := fun q q1 q2 => by
        rw [eg1, gs_at, if_neg (fun e => f4 ⟨q, q1, q2, e⟩)]
      by_cases e : i = p
      · subst e
        have e1 : g1 (l + 8) (g (l + 3) i) = z' + 1 := by rw [eg1, gs_at, if_pos rfl]
        rw [e1]
        refine ⟨by omega, ?_, ?_, fun q q1 q2 q3 => ?_⟩
        · rcases k4 with e | ⟨q, q1, q2, q3, q4⟩
          · omega
          · have := hC q q1 q2; omega
        · rcases k4 with e | ⟨q, q1, q2, q3, q4⟩
          · exact .inl (by omega)
          · have fq := hO q
            exact .inr ⟨q, q1, q2, (hR _ _ f.1 f2 fq.1 (by omega)).mpr q3, by rw [er q q1 q2]; omega⟩
        · have fq := hO q
          have := k5 q q1 q2 ((hR _ _ f.1 f2 fq.1 (by omega)).mp q3)
          rw [er q q1 q2]; omega
      · obtain ⟨a1, a2, a3, a4⟩ := hC i i1 (by omega)
        rw [er i i1 (by omega)]
        refine ⟨a1, a2, ?_, fun q q1 q2 q3 => ?_⟩
        · rcases a3 with e | ⟨q, q1, q2, q3, q4⟩
          · exact .inl e
          · exact .inr ⟨q, q1, q2, q3, by rw [er q q1 (by omega)]; exact q4⟩
        · rw [er q q1 (by omega)]; exact a4 q q1 q2 q3
    obtain ⟨g', y3', y4', j1, j2, j3⟩ := ih (p + 1) g1 (some (.int (iI z'))) (some (.int (iI p))) (by rw [r1 _ (by omega)]; exact hn) (by unfold rg; rw [r1 _ (by omega)]; exact hO) (by rw [r1 _ (by omega)]; exact hF) (by rw [r1 _ (by omega)]; exact hR) hC1 (by omega) (by omega)
    rw [r1 _ (by omega)] at j2
    refine ⟨g', y3', y4', fun h' hh => (j1 h' hh).trans (r1 h' hh), j2, fun Q => ?_⟩
    rw [w_iload_n2 (pc' := 14) q117 d117_13 rfl]
    simp (config := { decide := true }) only [w_aload_n0 (pc' := 15) q117 d117_14 rfl, w_getI (pc' := 18) q117 d117_15 rfl f117_95, w_icmp_ge (tg := 95) (pc' := 21) q117 d117_18 (by decide) rfl, w_iconst (pc' := 22) q117 d117_21 rfl, w_istore_n3 (pc' := 23) q117 d117_22 rfl, w_iconst (pc' := 24) q117 d117_23 rfl, w_istore4 (pc' := 26) q117 d117_24 rfl, gs_off, gs_off0, gs_0off, gs_2, xN_0, xN_2, xN_3, xN_6, xN_7, xN_8, xN_9, xN_10, xN_11, xN_12, xN_13, xN_14, xN_15, xN_16, xN_17, xN_18, xN_19, xN_20, xN_21, xN_22, xN_23, xN_24, xN_25, xN_26, xN_27, xN_28, xN_29, xN_30, xN_31, xN_32, xN_33, xN_34, xN_35, xN_36, xN_37, xN_38, xN_39, xN_40, xN_41, xN_42, xN_43, xN_44, xN_45, xN_46, xN_47, xN_48, xN_49, xN_50, xN_51, xN_52, xN_53, xN_54, xN_55, ti_0, ti_1, ti_2, ti_3, ti_4, ti_5, ti_6, ti_7, ti_8, ti_9, ti_10, ti_16, ti_19, ti_20, ti_29, ti_30, ti_31, ti_32, ti_35, ti_36, ti_38, ti_39, ti_40, ti_41, ti_42, ti_43, ti_44, ti_45, ti_46, ti_47, ti_48, ti_49, ti_50, ti_51, ti_52, ti_53, ti_54, ti_55, ti_56, ti_57, ti_58, ti_59, ti_60, ti_61, ti_62, ti_63, ti_64, ti_65, ti_74, ti_77, ti_126, ti_200, ti_201, ti_202, ti_203, ti_204, ti_205, ti_210, ti_255, ti_256, ti_400, ti_512, ti_600, ti_601, ti_602, ti_1000, ti_1023, ti_1024, ti_2000, ti_10000, ti_12602, ti_999999, ti_m999999, ti_m1, ti_2000000, ti_3000000, xN_1, xN_4, xN_5, xN_60, xN_61, xN_64, xN_200, xN_800, xN_12000, xN_12602, eq_self, and_self, and_true, true_and, if_true, if_false, decide_true, Nat.reduceLeDiff, xc2_int, xc2_ref, xc2_ra, xc2_null, xc2_long, xc2_none, xisaT_ref, xisaT_ra, xisaT_null, xc1T_int, xc1T_ref, xc1T_ra, xc1T_null, xsum_nil, xsum_int, xsum_ref, xsum_ra, xsum_long, xsum_double, xsum_null, xfl_nil, xfl_int, xfl_ref, xfl_ra, xfl_null, xfl_long, xfl_double, List.length_cons, List.length_nil, h0, hn, tp, tn, hlt, xfk, xfv, xak, xan, xcls, xsv', List.getElem?_cons_zero, List.getElem?_cons_succ, List.getD_cons_zero, List.getD_cons_succ, Option.getD_some, Option.isSome_some, if_true, if_pos, xcont, Option.toList_none, Option.toList_some, List.nil_append, List.cons_append]
    rw [k6 Q]
    simp (config := { decide := true }) only [w_aload_n0 (pc' := 76) q117 d117_75 rfl, w_getV (pc' := 79) q117 d117_76 rfl f117_35, w_aload_n0 (pc' := 80) q117 d117_79 rfl, w_getV (pc' := 83) q117 d117_80 rfl f117_19, w_iload_n2 (pc' := 84) q117 d117_83 rfl, w_iaload (pc' := 85) q117 d117_84 rfl, w_iload_n3 (pc' := 86) q117 d117_85 rfl, w_iconst (pc' := 87) q117 d117_86 rfl, w_iadd (pc' := 88) q117 d117_87 rfl, w_iastore (pc' := 89) q117 d117_88 rfl, w_iinc2 (z := (1)) (pc' := 92) q117 d117_89 rfl, w_goto (tg := 13) q117 d117_92 (by decide), gs_off, gs_off0, gs_0off, gs_2, xN_0, xN_2, xN_3, xN_6, xN_7, xN_8, xN_9, xN_10, xN_11, xN_12, xN_13, xN_14, xN_15, xN_16, xN_17, xN_18, xN_19, xN_20, xN_21, xN_22, xN_23, xN_24, xN_25, xN_26, xN_27, xN_28, xN_29, xN_30, xN_31, xN_32, xN_33, xN_34, xN_35, xN_36, xN_37, xN_38, xN_39, xN_40, xN_41, xN_42, xN_43, xN_44, xN_45, xN_46, xN_47, xN_48, xN_49, xN_50, xN_51, xN_52, xN_53, xN_54, xN_55, ti_0, ti_1, ti_2, ti_3, ti_4, ti_5, ti_6, ti_7, ti_8, ti_9, ti_10, ti_16, ti_19, ti_20, ti_29, ti_30, ti_31, ti_32, ti_35, ti_36, ti_38, ti_39, ti_40, ti_41, ti_42, ti_43, ti_44, ti_45, ti_46, ti_47, ti_48, ti_49, ti_50, ti_51, ti_52, ti_53, ti_54, ti_55, ti_56, ti_57, ti_58, ti_59, ti_60, ti_61, ti_62, ti_63, ti_64, ti_65, ti_74, ti_77, ti_126, ti_200, ti_201, ti_202, ti_203, ti_204, ti_205, ti_210, ti_255, ti_256, ti_400, ti_512, ti_600, ti_601, ti_602, ti_1000, ti_1023, ti_1024, ti_2000, ti_10000, ti_12602, ti_999999, ti_m999999, ti_m1, ti_2000000, ti_3000000, xN_1, xN_4, xN_5, xN_60, xN_61, xN_64, xN_200, xN_800, xN_12000, xN_12602, eq_self, and_self, and_true, true_and, if_true, if_false, decide_true, Nat.reduceLeDiff, xc2_int, xc2_ref, xc2_ra, xc2_null, xc2_long, xc2_none, xisaT_ref, xisaT_ra, xisaT_null, xc1T_int, xc1T_ref, xc1T_ra, xc1T_null, xsum_nil, xsum_int, xsum_ref, xsum_ra, xsum_long, xsum_double, xsum_null, xfl_nil, xfl_int, xfl_ref, xfl_ra, xfl_null, xfl_long, xfl_double, List.length_cons, List.length_nil, h0, h3, h8, tp, tf, h, b2, f.1, f2, xfk, xfv, xak, xan, xcls, xsv', List.getElem?_cons_zero, List.getElem?_cons_succ, List.getD_cons_zero, List.getD_cons_succ, Option.getD_some, Option.isSome_some, if_true, if_pos, xcont, Option.toList_none, Option.toList_some, List.nil_append, List.cons_append]
    rw [← eg1]
    exact j3 Q
theorem c_chainLength {l : Nat} {c : Int} {F : Int → Bool} {R : Int → Int → Prop} (hS : LkS S l) (hL : LkI F R g l) (hn2 : g l 2 ≤ 200) (hc : 0 ≤ c) (hc2 : c < 200) :
    ∃ g', (∀ h, ¬ h = l + 8 → g' h = g h) ∧ (0 ≤ g (l + 4) c → ChS R (g (l + 3)) (g' (l + 8)) (g l 4)) ∧ ∀ Q, Cw X (d + 1) 117 [.ref l, .int (iI c)] (hp S g) Q = Q (.inl (some (.int (iI (if g (l + 4) c < 0 then 0 else g' (l + 8) c))))) (hp S g') := by
  have hS' := hS
  obtain ⟨h0, h1, h2, h3, h4, h5, h6, h7, h8⟩ := hS'
  obtain ⟨a1, a2, a3, a4, ⟨b1, b2, b3, b4, b5, b6⟩, a6, a7⟩ := hL
  have tc : ti c = c := ti_eq (by omega) (by omega)
  have fc := b6 c
  have tf : ti (g (l + 4) c) = g (l + 4) c := ti_eq (by omega) (by omega)
  by_cases hp : g (l + 4) c < 0
  · have hp' : ¬ 0 ≤ g (l + 4) c := by omega
    refine ⟨g, fun _ _ => rfl, fun h => absurd h hp', fun Q => ?_⟩
    rw [e117, if_pos hp]
    simp (config := { decide := true }) only [w_aload_n0 (pc' := 1) q117 d117_0 rfl, w_getV (pc' := 4) q117 d117_1 rfl f117_22, w_iload_n1 (pc' := 5) q117 d117_4 rfl, w_iaload (pc' := 6) q117 d117_5 rfl, w_if_ge (tg := 11) (pc' := 9) q117 d117_6 (by decide) rfl, w_iconst (pc' := 10) q117 d117_9 rfl, w_ireturn q117 d117_10 m117.2.1, gs_off, gs_off0, gs_0off, gs_2, xN_0, xN_2, xN_3, xN_6, xN_7, xN_8, xN_9, xN_10, xN_11, xN_12, xN_13, xN_14, xN_15, xN_16, xN_17, xN_18, xN_19, xN_20, xN_21, xN_22, xN_23, xN_24, xN_25, xN_26, xN_27, xN_28, xN_29, xN_30, xN_31, xN_32, xN_33, xN_34, xN_35, xN_36, xN_37, xN_38, xN_39, xN_40, xN_41, xN_42, xN_43, xN_44, xN_45, xN_46, xN_47, xN_48, xN_49, xN_50, xN_51, xN_52, xN_53, xN_54, xN_55, ti_0, ti_1, ti_2, ti_3, ti_4, ti_5, ti_6, ti_7, ti_8, ti_9, ti_10, ti_16, ti_19, ti_20, ti_29, ti_30, ti_31, ti_32, ti_35, ti_36, ti_38, ti_39, ti_40, ti_41, ti_42, ti_43, ti_44, ti_45, ti_46, ti_47, ti_48, ti_49, ti_50, ti_51, ti_52, ti_53, ti_54, ti_55, ti_56, ti_57, ti_58, ti_59, ti_60, ti_61, ti_62, ti_63, ti_64, ti_65, ti_74, ti_77, ti_126, ti_200, ti_201, ti_202, ti_203, ti_204, ti_205, ti_210, ti_255, ti_256, ti_400, ti_512, ti_600, ti_601, ti_602, ti_1000, ti_1023, ti_1024, ti_2000, ti_10000, ti_12602, ti_999999, ti_m999999, ti_m1, ti_2000000, ti_3000000, xN_1, xN_4, xN_5, xN_60, xN_61, xN_64, xN_200, xN_800, xN_12000, xN_12602, eq_self, and_self, and_true, true_and, if_true, if_false, decide_true, Nat.reduceLeDiff, xc2_int, xc2_ref, xc2_ra, xc2_null, xc2_long, xc2_none, xisaT_ref, xisaT_ra, xisaT_null, xc1T_int, xc1T_ref, xc1T_ra, xc1T_null, xsum_nil, xsum_int, xsum_ref, xsum_ra, xsum_long, xsum_double, xsum_null, xfl_nil, xfl_int, xfl_ref, xfl_ra, xfl_null, xfl_long, xfl_double, List.length_cons, List.length_nil, h0, h4, tc, hc, hc2, tf, hp, hp', xfk, xfv, xak, xan, xcls, xsv', List.getElem?_cons_zero, List.getElem?_cons_succ, List.getD_cons_zero, List.getD_cons_succ, Option.getD_some, Option.isSome_some, if_true, if_pos, xcont, Option.toList_none, Option.toList_some, List.nil_append, List.cons_append]
  · have hp' : 0 ≤ g (l + 4) c := by omega
    obtain ⟨g', y3', y4', j1, j2, j3⟩ := l_chain (X := X) (d := d) (c := c) hS (show g l 4 ≤ 200 by omega) (g l 4).toNat 0 g none none rfl b5 b2 (fun c o c1 c2 o1 o2 => (a1 c o c1 c2 o1 (by omega)).symm) (fun i i1 i2 => by omega) (by omega) (by omega)
    refine ⟨g', j1, fun _ => j2, fun Q => ?_⟩
    rw [e117, if_neg hp]
    simp (config := { decide := true }) only [w_aload_n0 (pc' := 1) q117 d117_0 rfl, w_getV (pc' := 4) q117 d117_1 rfl f117_22, w_iload_n1 (pc' := 5) q117 d117_4 rfl, w_iaload (pc' := 6) q117 d117_5 rfl, w_if_ge (tg := 11) (pc' := 9) q117 d117_6 (by decide) rfl, w_iconst (pc' := 10) q117 d117_9 rfl, w_ireturn q117 d117_10 m117.2.1, w_iconst (pc' := 12) q117 d117_11 rfl, w_istore_n2 (pc' := 13) q117 d117_12 rfl, gs_off, gs_off0, gs_0off, gs_2, xN_0, xN_2, xN_3, xN_6, xN_7, xN_8, xN_9, xN_10, xN_11, xN_12, xN_13, xN_14, xN_15, xN_16, xN_17, xN_18, xN_19, xN_20, xN_21, xN_22, xN_23, xN_24, xN_25, xN_26, xN_27, xN_28, xN_29, xN_30, xN_31, xN_32, xN_33, xN_34, xN_35, xN_36, xN_37, xN_38, xN_39, xN_40, xN_41, xN_42, xN_43, xN_44, xN_45, xN_46, xN_47, xN_48, xN_49, xN_50, xN_51, xN_52, xN_53, xN_54, xN_55, ti_0, ti_1, ti_2, ti_3, ti_4, ti_5, ti_6, ti_7, ti_8, ti_9, ti_10, ti_16, ti_19, ti_20, ti_29, ti_30, ti_31, ti_32, ti_35, ti_36, ti_38, ti_39, ti_40, ti_41, ti_42, ti_43, ti_44, ti_45, ti_46, ti_47, ti_48, ti_49, ti_50, ti_51, ti_52, ti_53, ti_54, ti_55, ti_56, ti_57, ti_58, ti_59, ti_60, ti_61, ti_62, ti_63, ti_64, ti_65, ti_74, ti_77, ti_126, ti_200, ti_201, ti_202, ti_203, ti_204, ti_205, ti_210, ti_255, ti_256, ti_400, ti_512, ti_600, ti_601, ti_602, ti_1000, ti_1023, ti_1024, ti_2000, ti_10000, ti_12602, ti_999999, ti_m999999, ti_m1, ti_2000000, ti_3000000, xN_1, xN_4, xN_5, xN_60, xN_61, xN_64, xN_200, xN_800, xN_12000, xN_12602, eq_self, and_self, and_true, true_and, if_true, if_false, decide_true, Nat.reduceLeDiff, xc2_int, xc2_ref, xc2_ra, xc2_null, xc2_long, xc2_none, xisaT_ref, xisaT_ra, xisaT_null, xc1T_int, xc1T_ref, xc1T_ra, xc1T_null, xsum_nil, xsum_int, xsum_ref, xsum_ra, xsum_long, xsum_double, xsum_null, xfl_nil, xfl_int, xfl_ref, xfl_ra, xfl_null, xfl_long, xfl_double, List.length_cons, List.length_nil, h0, h4, tc, hc, hc2, tf, hp, hp', xfk, xfv, xak, xan, xcls, xsv', List.getElem?_cons_zero, List.getElem?_cons_succ, List.getD_cons_zero, List.getD_cons_succ, Option.getD_some, Option.isSome_some, if_true, if_pos, xcont, Option.toList_none, Option.toList_some, List.nil_append, List.cons_append]
    rw [j3 Q]
    simp (config := { decide := true }) only [w_aload_n0 (pc' := 96) q117 d117_95 rfl, w_getV (pc' := 99) q117 d117_96 rfl f117_35, w_iload_n1 (pc' := 100) q117 d117_99 rfl, w_iaload (pc' := 101) q117 d117_100 rfl, w_ireturn q117 d117_101 m117.2.1, gs_off, gs_off0, gs_0off, gs_2, xN_0, xN_2, xN_3, xN_6, xN_7, xN_8, xN_9, xN_10, xN_11, xN_12, xN_13, xN_14, xN_15, xN_16, xN_17, xN_18, xN_19, xN_20, xN_21, xN_22, xN_23, xN_24, xN_25, xN_26, xN_27, xN_28, xN_29, xN_30, xN_31, xN_32, xN_33, xN_34, xN_35, xN_36, xN_37, xN_38, xN_39, xN_40, xN_41, xN_42, xN_43, xN_44, xN_45, xN_46, xN_47, xN_48, xN_49, xN_50, xN_51, xN_52, xN_53, xN_54, xN_55, ti_0, ti_1, ti_2, ti_3, ti_4, ti_5, ti_6, ti_7, ti_8, ti_9, ti_10, ti_16, ti_19, ti_20, ti_29, ti_30, ti_31, ti_32, ti_35, ti_36, ti_38, ti_39, ti_40, ti_41, ti_42, ti_43, ti_44, ti_45, ti_46, ti_47, ti_48, ti_49, ti_50, ti_51, ti_52, ti_53, ti_54, ti_55, ti_56, ti_57, ti_58, ti_59, ti_60, ti_61, ti_62, ti_63, ti_64, ti_65, ti_74, ti_77, ti_126, ti_200, ti_201, ti_202, ti_203, ti_204, ti_205, ti_210, ti_255, ti_256, ti_400, ti_512, ti_600, ti_601, ti_602, ti_1000, ti_1023, ti_1024, ti_2000, ti_10000, ti_12602, ti_999999, ti_m999999, ti_m1, ti_2000000, ti_3000000, xN_1, xN_4, xN_5, xN_60, xN_61, xN_64, xN_200, xN_800, xN_12000, xN_12602, eq_self, and_self, and_true, true_and, if_true, if_false, decide_true, Nat.reduceLeDiff, xc2_int, xc2_ref, xc2_ra, xc2_null, xc2_long, xc2_none, xisaT_ref, xisaT_ra, xisaT_null, xc1T_int, xc1T_ref, xc1T_ra, xc1T_null, xsum_nil, xsum_int, xsum_ref, xsum_ra, xsum_long, xsum_double, xsum_null, xfl_nil, xfl_int, xfl_ref, xfl_ra, xfl_null, xfl_long, xfl_double, List.length_cons, List.length_nil, h0, h8, tc, hc, hc2, xfk, xfv, xak, xan, xcls, xsv', List.getElem?_cons_zero, List.getElem?_cons_succ, List.getD_cons_zero, List.getD_cons_succ, Option.getD_some, Option.isSome_some, if_true, if_pos, xcont, Option.toList_none, Option.toList_some, List.nil_append, List.cons_append]
end
