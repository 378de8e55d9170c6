/-! Links: marks and the queue -/
section
theorem sumf_upd {f f' : Int → Int} {c z : Int} : ∀ (m : Nat) (a : Int), a ≤ c → c < a + m → (∀ j, ¬ j = c → f' j = f j) → f' c = z → sumf f' a m = sumf f a m - f c + z
  | 0, a, h1, h2, _, _ => by omega
  | m + 1, a, h1, h2, h3, h4 => by
    rw [sumf, sumf]
    by_cases e : a = c
    · subst e
      have : sumf f' (a + 1) m = sumf f (a + 1) m := sumf_congr m (a + 1) (fun j h _ => h3 j (by omega))
      rw [this, h4]
      omega
    · have := sumf_upd (f := f) (f' := f') m (a + 1) (by omega) (by omega) h3 h4
      rw [this, h3 a e]
      omega
variable {X : xX} {d : Nat} {S : xLm} {g : xGm} {Q : xO → xH → Prop}
theorem l_clearMarks {l : Nat} (hS : LkS S l) : ∀ (m : Nat) (i : Int) (g : xGm), i + m = 200 → 0 ≤ i →
    Wx X d 109 2 [some (.ref l), some (.int (iI i))] [] (hp S g) Q = Q (.inl none) (hp S (gr g (l + 6) (fun j => if i ≤ j ∧ j < 200 then 0 else g (l + 6) j))) := by
  have hS' := hS
  obtain ⟨h0, h1, h2, h3, h4, h5, h6, h7, h8⟩ := hS'
  intro m
  induction m with
  | zero =>
    intro i g hi h
    obtain rfl : i = 200 := by omega
    rw [w_iload_n1 (pc' := 3) q109 d109_2 rfl]
    simp (config := { decide := true }) only [w_sipush (z' := (200)) (pc' := 6) q109 d109_3 rfl (by decide), w_icmp_ge (tg := 22) (pc' := 9) q109 d109_6 (by decide) rfl, w_aload_n0 (pc' := 10) q109 d109_9 rfl, w_getV (pc' := 13) q109 d109_10 rfl f109_28, w_iload_n1 (pc' := 14) q109 d109_13 rfl, w_iconst (pc' := 15) q109 d109_14 rfl, w_zastore (pc' := 16) q109 d109_15 rfl, w_bastore (pc' := 16) q109 d109_15 rfl, w_iinc1 (z := (1)) (pc' := 19) q109 d109_16 rfl, w_goto (tg := 2) q109 d109_19 (by decide), w_return q109 d109_22 m109.2.1, gs_off, gs_off0, gs_0off, gs_2, xN_0, xN_2, xN_3, xN_6, xN_7, xN_8, xN_9, xN_10, xN_11, xN_12, xN_13, xN_14, xN_15, xN_16, xN_17, xN_18, xN_19, xN_20, xN_21, xN_22, xN_23, xN_24, xN_25, xN_26, xN_27, xN_28, xN_29, xN_30, xN_31, xN_32, xN_33, xN_34, xN_35, xN_36, xN_37, xN_38, xN_39, xN_40, xN_41, xN_42, xN_43, xN_44, xN_45, xN_46, xN_47, xN_48, xN_49, xN_50, xN_51, xN_52, xN_53, xN_54, xN_55, ti_0, ti_1, ti_2, ti_3, ti_4, ti_5, ti_6, ti_7, ti_8, ti_9, ti_10, ti_16, ti_19, ti_20, ti_29, ti_30, ti_31, ti_32, ti_35, ti_36, ti_38, ti_39, ti_40, ti_41, ti_42, ti_43, ti_44, ti_45, ti_46, ti_47, ti_48, ti_49, ti_50, ti_51, ti_52, ti_53, ti_54, ti_55, ti_56, ti_57, ti_58, ti_59, ti_60, ti_61, ti_62, ti_63, ti_64, ti_65, ti_74, ti_77, ti_126, ti_200, ti_201, ti_202, ti_203, ti_204, ti_205, ti_210, ti_255, ti_256, ti_400, ti_512, ti_600, ti_601, ti_602, ti_1000, ti_1023, ti_1024, ti_2000, ti_10000, ti_12602, ti_999999, ti_m999999, ti_m1, ti_2000000, ti_3000000, xN_1, xN_4, xN_5, xN_60, xN_61, xN_64, xN_200, xN_800, xN_12000, xN_12602, eq_self, and_self, and_true, true_and, if_true, if_false, decide_true, Nat.reduceLeDiff, xc2_int, xc2_ref, xc2_ra, xc2_null, xc2_long, xc2_none, xisaT_ref, xisaT_ra, xisaT_null, xc1T_int, xc1T_ref, xc1T_ra, xc1T_null, xsum_nil, xsum_int, xsum_ref, xsum_ra, xsum_long, xsum_double, xsum_null, xfl_nil, xfl_int, xfl_ref, xfl_ra, xfl_null, xfl_long, xfl_double, List.length_cons, List.length_nil, h0, xfk, xfv, xak, xan, xcls, xsv', List.getElem?_cons_zero, List.getElem?_cons_succ, List.getD_cons_zero, List.getD_cons_succ, Option.getD_some, Option.isSome_some, if_true, if_pos, xcont, Option.toList_none, Option.toList_some, List.nil_append, List.cons_append]
    congr 2
    funext h' j
    unfold gr
    split
    · next e => subst e; dsimp only; rw [if_neg (by omega)]
    · rfl
  | succ m ih =>
    intro i g hi h
    have ti' : ti i = i := ti_eq (by omega) (by omega)
    have hlt : ¬ 200 ≤ i := by omega
    have hb : i < 200 := by omega
    have z0 : xnz 0 = 0 := by decide
    rw [w_iload_n1 (pc' := 3) q109 d109_2 rfl]
    simp (config := { decide := true }) only [w_sipush (z' := (200)) (pc' := 6) q109 d109_3 rfl (by decide), w_icmp_ge (tg := 22) (pc' := 9) q109 d109_6 (by decide) rfl, w_aload_n0 (pc' := 10) q109 d109_9 rfl, w_getV (pc' := 13) q109 d109_10 rfl f109_28, w_iload_n1 (pc' := 14) q109 d109_13 rfl, w_iconst (pc' := 15) q109 d109_14 rfl, w_zastore (pc' := 16) q109 d109_15 rfl, w_bastore (pc' := 16) q109 d109_15 rfl, w_iinc1 (z := (1)) (pc' := 19) q109 d109_16 rfl, w_goto (tg := 2) q109 d109_19 (by decide), gs_off, gs_off0, gs_0off, gs_2, xN_0, xN_2, xN_3, xN_6, xN_7, xN_8, xN_9, xN_10, xN_11, xN_12, xN_13, xN_14, xN_15, xN_16, xN_17, xN_18, xN_19, xN_20, xN_21, xN_22, xN_23, xN_24, xN_25, xN_26, xN_27, xN_28, xN_29, xN_30, xN_31, xN_32, xN_33, xN_34, xN_35, xN_36, xN_37, xN_38, xN_39, xN_40, xN_41, xN_42, xN_43, xN_44, xN_45, xN_46, xN_47, xN_48, xN_49, xN_50, xN_51, xN_52, xN_53, xN_54, xN_55, ti_0, ti_1, ti_2, ti_3, ti_4, ti_5, ti_6, ti_7, ti_8, ti_9, ti_10, ti_16, ti_19, ti_20, ti_29, ti_30, ti_31, ti_32, ti_35, ti_36, ti_38, ti_39, ti_40, ti_41, ti_42, ti_43, ti_44, ti_45, ti_46, ti_47, ti_48, ti_49, ti_50, ti_51, ti_52, ti_53, ti_54, ti_55, ti_56, ti_57, ti_58, ti_59, ti_60, ti_61, ti_62, ti_63, ti_64, ti_65, ti_74, ti_77, ti_126, ti_200, ti_201, ti_202, ti_203, ti_204, ti_205, ti_210, ti_255, ti_256, ti_400, ti_512, ti_600, ti_601, ti_602, ti_1000, ti_1023, ti_1024, ti_2000, ti_10000, ti_12602, ti_999999, ti_m999999, ti_m1, ti_2000000, ti_3000000, xN_1, xN_4, xN_5, xN_60, xN_61, xN_64, xN_200, xN_800, xN_12000, xN_12602, eq_self, and_self, and_true, true_and, if_true, if_false, decide_true, Nat.reduceLeDiff, xc2_int, xc2_ref, xc2_ra, xc2_null, xc2_long, xc2_none, xisaT_ref, xisaT_ra, xisaT_null, xc1T_int, xc1T_ref, xc1T_ra, xc1T_null, xsum_nil, xsum_int, xsum_ref, xsum_ra, xsum_long, xsum_double, xsum_null, xfl_nil, xfl_int, xfl_ref, xfl_ra, xfl_null, xfl_long, xfl_double, List.length_cons, List.length_nil, h0, h6, ti', hlt, h, hb, z0, xfk, xfv, xak, xan, xcls, xsv', List.getElem?_cons_zero, List.getElem?_cons_succ, List.getD_cons_zero, List.getD_cons_succ, Option.getD_some, Option.isSome_some, if_true, if_pos, xcont, Option.toList_none, Option.toList_some, List.nil_append, List.cons_append]
    rw [ih (i + 1) _ (by omega) (by omega)]
    congr 2
    funext h' j
    unfold gr
    split
    · next e =>
      subst e
      dsimp only
      rw [gs_at]
      by_cases e1 : j = i
      · subst e1; rw [if_neg (by omega), if_pos rfl, if_pos (by omega)]
      · rw [if_neg e1]
        by_cases e2 : i + 1 ≤ j ∧ j < 200
        · rw [if_pos e2, if_pos (by omega)]
        · rw [if_neg e2, if_neg (by omega)]
    · next e => rw [gs_row _ _ _ e]
theorem c_clearMarks {l : Nat} (hS : LkS S l) : Cw X d 109 [.ref l] (hp S g) Q = Q (.inl none) (hp S (gr g (l + 6) (fun j => if 0 ≤ j ∧ j < 200 then 0 else g (l + 6) j))) := by
  rw [e109]
  simp (config := { decide := true }) only [w_iconst (pc' := 1) q109 d109_0 rfl, w_istore_n1 (pc' := 2) q109 d109_1 rfl, gs_off, gs_off0, gs_0off, gs_2, xN_0, xN_2, xN_3, xN_6, xN_7, xN_8, xN_9, xN_10, xN_11, xN_12, xN_13, xN_14, xN_15, xN_16, xN_17, xN_18, xN_19, xN_20, xN_21, xN_22, xN_23, xN_24, xN_25, xN_26, xN_27, xN_28, xN_29, xN_30, xN_31, xN_32, xN_33, xN_34, xN_35, xN_36, xN_37, xN_38, xN_39, xN_40, xN_41, xN_42, xN_43, xN_44, xN_45, xN_46, xN_47, xN_48, xN_49, xN_50, xN_51, xN_52, xN_53, xN_54, xN_55, ti_0, ti_1, ti_2, ti_3, ti_4, ti_5, ti_6, ti_7, ti_8, ti_9, ti_10, ti_16, ti_19, ti_20, ti_29, ti_30, ti_31, ti_32, ti_35, ti_36, ti_38, ti_39, ti_40, ti_41, ti_42, ti_43, ti_44, ti_45, ti_46, ti_47, ti_48, ti_49, ti_50, ti_51, ti_52, ti_53, ti_54, ti_55, ti_56, ti_57, ti_58, ti_59, ti_60, ti_61, ti_62, ti_63, ti_64, ti_65, ti_74, ti_77, ti_126, ti_200, ti_201, ti_202, ti_203, ti_204, ti_205, ti_210, ti_255, ti_256, ti_400, ti_512, ti_600, ti_601, ti_602, ti_1000, ti_1023, ti_1024, ti_2000, ti_10000, ti_12602, ti_999999, ti_m999999, ti_m1, ti_2000000, ti_3000000, xN_1, xN_4, xN_5, xN_60, xN_61, xN_64, xN_200, xN_800, xN_12000, xN_12602, eq_self, and_self, and_true, true_and, if_true, if_false, decide_true, Nat.reduceLeDiff, xc2_int, xc2_ref, xc2_ra, xc2_null, xc2_long, xc2_none, xisaT_ref, xisaT_ra, xisaT_null, xc1T_int, xc1T_ref, xc1T_ra, xc1T_null, xsum_nil, xsum_int, xsum_ref, xsum_ra, xsum_long, xsum_double, xsum_null, xfl_nil, xfl_int, xfl_ref, xfl_ra, xfl_null, xfl_long, xfl_double, List.length_cons, List.length_nil, xfk, xfv, xak, xan, xcls, xsv', List.getElem?_cons_zero, List.getElem?_cons_succ, List.getD_cons_zero, List.getD_cons_succ, Option.getD_some, Option.isSome_some, if_true, if_pos, xcont, Option.toList_none, Option.toList_some, List.nil_append, List.cons_append]
  rw [l_clearMarks hS 200 0 g (by omega) (by omega)]
theorem l_markAll {l : Nat} {n : Int} (hS : LkS S l) (hn2 : n ≤ 200) : ∀ (m : Nat) (i : Int) (g : xGm), g l 2 = n → rg g (l + 2) 0 199 → i + m = n → 0 ≤ i →
    ∃ f, (∀ j, f j = 1 ∨ f j = g (l + 6) j) ∧ (∀ j, f j = 1 ↔ g (l + 6) j = 1 ∨ ∃ q, i ≤ q ∧ q < n ∧ g (l + 2) q = j) ∧ ∀ Q, Wx X d 112 6 [some (.ref l), some (.int (iI i))] [] (hp S g) Q = Q (.inl none) (hp S (gr g (l + 6) f)) := by
  have hS' := hS
  obtain ⟨h0, h1, h2, h3, h4, h5, h6, h7, h8⟩ := hS'
  intro m
  induction m with
  | zero =>
    intro i g hn hF hi h
    obtain rfl : i = n := by omega
    have ti' : ti i = i := ti_eq (by omega) (by omega)
    refine ⟨g (l + 6), fun j => .inr rfl, fun j => ⟨.inl, fun h => h.elim id (fun ⟨q, a, b, c⟩ => by omega)⟩, fun Q => ?_⟩
    rw [w_iload_n1 (pc' := 7) q112 d112_6 rfl]
    simp (config := { decide := true }) only [w_aload_n0 (pc' := 8) q112 d112_7 rfl, w_getI (pc' := 11) q112 d112_8 rfl f112_38, w_icmp_ge (tg := 32) (pc' := 14) q112 d112_11 (by decide) rfl, w_aload_n0 (pc' := 15) q112 d112_14 rfl, w_getV (pc' := 18) q112 d112_15 rfl f112_28, w_aload_n0 (pc' := 19) q112 d112_18 rfl, w_getV (pc' := 22) q112 d112_19 rfl f112_15, w_iload_n1 (pc' := 23) q112 d112_22 rfl, w_iaload (pc' := 24) q112 d112_23 rfl, w_iconst (pc' := 25) q112 d112_24 rfl, w_zastore (pc' := 26) q112 d112_25 rfl, w_bastore (pc' := 26) q112 d112_25 rfl, w_iinc1 (z := (1)) (pc' := 29) q112 d112_26 rfl, w_goto (tg := 6) q112 d112_29 (by decide), w_return q112 d112_32 m112.2.1, gs_off, gs_off0, gs_0off, gs_2, xN_0, xN_2, xN_3, xN_6, xN_7, xN_8, xN_9, xN_10, xN_11, xN_12, xN_13, xN_14, xN_15, xN_16, xN_17, xN_18, xN_19, xN_20, xN_21, xN_22, xN_23, xN_24, xN_25, xN_26, xN_27, xN_28, xN_29, xN_30, xN_31, xN_32, xN_33, xN_34, xN_35, xN_36, xN_37, xN_38, xN_39, xN_40, xN_41, xN_42, xN_43, xN_44, xN_45, xN_46, xN_47, xN_48, xN_49, xN_50, xN_51, xN_52, xN_53, xN_54, xN_55, ti_0, ti_1, ti_2, ti_3, ti_4, ti_5, ti_6, ti_7, ti_8, ti_9, ti_10, ti_16, ti_19, ti_20, ti_29, ti_30, ti_31, ti_32, ti_35, ti_36, ti_38, ti_39, ti_40, ti_41, ti_42, ti_43, ti_44, ti_45, ti_46, ti_47, ti_48, ti_49, ti_50, ti_51, ti_52, ti_53, ti_54, ti_55, ti_56, ti_57, ti_58, ti_59, ti_60, ti_61, ti_62, ti_63, ti_64, ti_65, ti_74, ti_77, ti_126, ti_200, ti_201, ti_202, ti_203, ti_204, ti_205, ti_210, ti_255, ti_256, ti_400, ti_512, ti_600, ti_601, ti_602, ti_1000, ti_1023, ti_1024, ti_2000, ti_10000, ti_12602, ti_999999, ti_m999999, ti_m1, ti_2000000, ti_3000000, xN_1, xN_4, xN_5, xN_60, xN_61, xN_64, xN_200, xN_800, xN_12000, xN_12602, eq_self, and_self, and_true, true_and, if_true, if_false, decide_true, Nat.reduceLeDiff, xc2_int, xc2_ref, xc2_ra, xc2_null, xc2_long, xc2_none, xisaT_ref, xisaT_ra, xisaT_null, xc1T_int, xc1T_ref, xc1T_ra, xc1T_null, xsum_nil, xsum_int, xsum_ref, xsum_ra, xsum_long, xsum_double, xsum_null, xfl_nil, xfl_int, xfl_ref, xfl_ra, xfl_null, xfl_long, xfl_double, List.length_cons, List.length_nil, h0, hn, ti', Int.le_refl, xfk, xfv, xak, xan, xcls, xsv', List.getElem?_cons_zero, List.getElem?_cons_succ, List.getD_cons_zero, List.getD_cons_succ, Option.getD_some, Option.isSome_some, if_true, if_pos, xcont, Option.toList_none, Option.toList_some, List.nil_append, List.cons_append]
    congr 2
    funext h'
    unfold gr
    split
    · next e => subst e; rfl
    · rfl
  | succ m ih =>
    intro i g hn hF hi h
    have ti' : ti i = i := ti_eq (by omega) (by omega)
    have tn : ti n = n := ti_eq (by omega) (by omega)
    have hlt : ¬ n ≤ i := by omega
    have b2 : i < 200 := by omega
    have f := hF i
    have f2 : g (l + 2) i < 200 := by omega
    have tf : ti (g (l + 2) i) = g (l + 2) i := ti_eq (by omega) (by omega)
    have z1 : xnz 1 = 1 := by decide
    obtain ⟨f', k1, k2, k3⟩ := ih (i + 1) (gs g (l + 6) (g (l + 2) i) 1) (by rw [gs_off0 (by decide)]; exact hn) (fun j => by rw [gs_off (by decide)]; exact hF j) (by omega) (by omega)
    refine ⟨f', fun j => ?_, fun j => ?_, fun Q => ?_⟩
    · rcases k1 j with e | e
      · exact .inl e
      · rw [gs_at] at e
        split at e
        · exact .inl e
        · exact .inr e
    · rw [k2 j, gs_at]
      constructor
      · rintro (e | ⟨q, q1, q2, q3⟩)
        · split at e
          · next ej => exact .inr ⟨i, Int.le_refl _, by omega, ej.symm⟩
          · exact .inl e
        · rw [gs_off (by decide)] at q3
          exact .inr ⟨q, by omega, q2, q3⟩
      · rintro (e | ⟨q, q1, q2, q3⟩)
        · left; split
          · rfl
          · exact e
        · by_cases e : q = i
          · subst e; left; rw [if_pos q3.symm]
          · right; exact ⟨q, by omega, q2, by rw [gs_off (by decide)]; exact q3⟩
    · rw [w_iload_n1 (pc' := 7) q112 d112_6 rfl]
      simp (config := { decide := true }) only [w_aload_n0 (pc' := 8) q112 d112_7 rfl, w_getI (pc' := 11) q112 d112_8 rfl f112_38, w_icmp_ge (tg := 32) (pc' := 14) q112 d112_11 (by decide) rfl, w_aload_n0 (pc' := 15) q112 d112_14 rfl, w_getV (pc' := 18) q112 d112_15 rfl f112_28, w_aload_n0 (pc' := 19) q112 d112_18 rfl, w_getV (pc' := 22) q112 d112_19 rfl f112_15, w_iload_n1 (pc' := 23) q112 d112_22 rfl, w_iaload (pc' := 24) q112 d112_23 rfl, w_iconst (pc' := 25) q112 d112_24 rfl, w_zastore (pc' := 26) q112 d112_25 rfl, w_bastore (pc' := 26) q112 d112_25 rfl, w_iinc1 (z := (1)) (pc' := 29) q112 d112_26 rfl, w_goto (tg := 6) q112 d112_29 (by decide), gs_off, gs_off0, gs_0off, gs_2, xN_0, xN_2, xN_3, xN_6, xN_7, xN_8, xN_9, xN_10, xN_11, xN_12, xN_13, xN_14, xN_15, xN_16, xN_17, xN_18, xN_19, xN_20, xN_21, xN_22, xN_23, xN_24, xN_25, xN_26, xN_27, xN_28, xN_29, xN_30, xN_31, xN_32, xN_33, xN_34, xN_35, xN_36, xN_37, xN_38, xN_39, xN_40, xN_41, xN_42, xN_43, xN_44, xN_45, xN_46, xN_47, xN_48, xN_49, xN_50, xN_51, xN_52, xN_53, xN_54, xN_55, ti_0, ti_1, ti_2, ti_3, ti_4, ti_5, ti_6, ti_7, ti_8, ti_9, ti_10, ti_16, ti_19, ti_20, ti_29, ti_30, ti_31, ti_32, ti_35, ti_36, ti_38, ti_39, ti_40, ti_41, ti_42, ti_43, ti_44, ti_45, ti_46, ti_47, ti_48, ti_49, ti_50, ti_51, ti_52, ti_53, ti_54, ti_55, ti_56, ti_57, ti_58, ti_59, ti_60, ti_61, ti_62, ti_63, ti_64, ti_65, ti_74, ti_77, ti_126, ti_200, ti_201, ti_202, ti_203, ti_204, ti_205, ti_210, ti_255, ti_256, ti_400, ti_512, ti_600, ti_601, ti_602, ti_1000, ti_1023, ti_1024, ti_2000, ti_10000, ti_12602, ti_999999, ti_m999999, ti_m1, ti_2000000, ti_3000000, xN_1, xN_4, xN_5, xN_60, xN_61, xN_64, xN_200, xN_800, xN_12000, xN_12602, eq_self, and_self, and_true, true_and, if_true, if_false, decide_true, Nat.reduceLeDiff, xc2_int, xc2_ref, xc2_ra, xc2_null, xc2_long, xc2_none, xisaT_ref, xisaT_ra, xisaT_null, xc1T_int, xc1T_ref, xc1T_ra, xc1T_null, xsum_nil, xsum_int, xsum_ref, xsum_ra, xsum_long, xsum_double, xsum_null, xfl_nil, xfl_int, xfl_ref, xfl_ra, xfl_null, xfl_long, xfl_double, List.length_cons, List.length_nil, h0, h2, h6, hn, ti', tn, hlt, h, b2, tf, f.1, f2, z1, xfk, xfv, xak, xan, xcls, xsv', List.getElem?_cons_zero, List.getElem?_cons_succ, List.getD_cons_zero, List.getD_cons_succ, Option.getD_some, Option.isSome_some, if_true, if_pos, xcont, Option.toList_none, Option.toList_some, List.nil_append, List.cons_append]
      rw [k3 Q]
      congr 2
      funext h' j
      unfold gr
      split
      · rfl
      · next e => rw [gs_row _ _ _ e]
theorem c_markAll {l : Nat} {n : Int} {F : Int → Bool} (hS : LkS S l) (hn : g l 2 = n) (hn0 : 0 ≤ n) (hn2 : n ≤ 200) (hF : rg g (l + 2) 0 199) (hM : rg g (l + 6) 0 1) (hFC : FC (g (l + 2)) n F) :
    ∃ f, (∀ j, 0 ≤ f j ∧ f j ≤ 1) ∧ (∀ j, 0 ≤ j → j < 200 → (f j = 1 ↔ F j = true)) ∧ ∀ Q, Cw X (d + 1) 112 [.ref l] (hp S g) Q = Q (.inl none) (hp S (gr g (l + 6) f)) := by
  have h0 := hS.1
  obtain ⟨f, k1, k2, k3⟩ := l_markAll (X := X) (d := d + 1) hS hn2 n.toNat 0 (gr g (l + 6) (fun j => if 0 ≤ j ∧ j < 200 then 0 else g (l + 6) j)) (by rw [gr_off0 (by decide)]; exact hn) (fun j => by rw [gr_off (by decide)]; exact hF j) (by omega) (by omega)
  simp only [gr_hit, gr_off (show ¬ 2 = 6 by decide)] at k1 k2
  refine ⟨f, fun j => ?_, fun j j1 j2 => ?_, fun Q => ?_⟩
  · rcases k1 j with e | e
    · omega
    · have := hM j
      rw [e]; split <;> omega
  · rw [k2 j, if_pos ⟨j1, j2⟩]
    constructor
    · rintro (e | ⟨q, q1, q2, q3⟩)
      · omega
      · obtain ⟨c, c1, c2, c3, c4⟩ := FC_ex hFC q1 q2
        rw [q3] at c4; rw [c4]; exact c3
    · intro e
      obtain ⟨q, q1, q2, q3⟩ := FC_at hFC j1 j2 e
      exact .inr ⟨q, q1, q2, q3⟩
  · rw [e112]
    simp (config := { decide := true }) only [w_aload_n0 (pc' := 1) q112 d112_0 rfl, w_invv0 (ci := 6) (pc' := 4) q112 d112_1 rfl n112_115 k112_115_6 m109.1, w_iconst (pc' := 5) q112 d112_4 rfl, w_istore_n1 (pc' := 6) q112 d112_5 rfl, gs_off, gs_off0, gs_0off, gs_2, xN_0, xN_2, xN_3, xN_6, xN_7, xN_8, xN_9, xN_10, xN_11, xN_12, xN_13, xN_14, xN_15, xN_16, xN_17, xN_18, xN_19, xN_20, xN_21, xN_22, xN_23, xN_24, xN_25, xN_26, xN_27, xN_28, xN_29, xN_30, xN_31, xN_32, xN_33, xN_34, xN_35, xN_36, xN_37, xN_38, xN_39, xN_40, xN_41, xN_42, xN_43, xN_44, xN_45, xN_46, xN_47, xN_48, xN_49, xN_50, xN_51, xN_52, xN_53, xN_54, xN_55, ti_0, ti_1, ti_2, ti_3, ti_4, ti_5, ti_6, ti_7, ti_8, ti_9, ti_10, ti_16, ti_19, ti_20, ti_29, ti_30, ti_31, ti_32, ti_35, ti_36, ti_38, ti_39, ti_40, ti_41, ti_42, ti_43, ti_44, ti_45, ti_46, ti_47, ti_48, ti_49, ti_50, ti_51, ti_52, ti_53, ti_54, ti_55, ti_56, ti_57, ti_58, ti_59, ti_60, ti_61, ti_62, ti_63, ti_64, ti_65, ti_74, ti_77, ti_126, ti_200, ti_201, ti_202, ti_203, ti_204, ti_205, ti_210, ti_255, ti_256, ti_400, ti_512, ti_600, ti_601, ti_602, ti_1000, ti_1023, ti_1024, ti_2000, ti_10000, ti_12602, ti_999999, ti_m999999, ti_m1, ti_2000000, ti_3000000, xN_1, xN_4, xN_5, xN_60, xN_61, xN_64, xN_200, xN_800, xN_12000, xN_12602, eq_self, and_self, and_true, true_and, if_true, if_false, decide_true, Nat.reduceLeDiff, xc2_int, xc2_ref, xc2_ra, xc2_null, xc2_long, xc2_none, xisaT_ref, xisaT_ra, xisaT_null, xc1T_int, xc1T_ref, xc1T_ra, xc1T_null, xsum_nil, xsum_int, xsum_ref, xsum_ra, xsum_long, xsum_double, xsum_null, xfl_nil, xfl_int, xfl_ref, xfl_ra, xfl_null, xfl_long, xfl_double, List.length_cons, List.length_nil, h0, c_clearMarks hS, xfk, xfv, xak, xan, xcls, xsv', List.getElem?_cons_zero, List.getElem?_cons_succ, List.getD_cons_zero, List.getD_cons_succ, Option.getD_some, Option.isSome_some, if_true, if_pos, xcont, Option.toList_none, Option.toList_some, List.nil_append, List.cons_append]
    rw [k3 Q]
    congr 2
    funext h'
    unfold gr
    split <;> rfl
/-- a step of marking -/
def nea (tu : Bool) (r : Int → Int) (c o : Int) : Bool := if tu = true then bt r o c else bt r c o
def MkS (p : Int → Bool) (fi : Int → Int) (i : Int) (m0 q0 : Int → Int) (w : Int) (mk qu : Int → Int) (len : Int) : Prop :=
  (∀ c, mk c = 1 ↔ m0 c = 1 ∨ ∃ j, 0 ≤ j ∧ j < i ∧ fi j = c ∧ p c = true) ∧ (∀ c, 0 ≤ mk c ∧ mk c ≤ 1) ∧ (∀ c, 0 ≤ qu c ∧ qu c ≤ 199) ∧ w ≤ len ∧ (∀ q, q < w → qu q = q0 q) ∧
  (∀ q, w ≤ q → q < len → mk (qu q) = 1 ∧ p (qu q) = true ∧ ∃ j, 0 ≤ j ∧ j < i ∧ fi j = qu q) ∧ (∀ c, mk c = 1 → m0 c = 1 ∨ ∃ q, w ≤ q ∧ q < len ∧ qu q = c) ∧ len - w = sumf mk 0 200 - sumf m0 0 200
theorem MkS_no {p : Int → Bool} {fi m0 q0 mk qu : Int → Int} {i w len : Int} (h : MkS p fi i m0 q0 w mk qu len) (hp : ¬ (p (fi i) = true ∧ mk (fi i) = 0)) (hi : 0 ≤ i) : MkS p fi (i + 1) m0 q0 w mk qu len := by
  obtain ⟨a1, a2, a3, a4, a5, a6, a7, a8⟩ := h
  refine ⟨fun c => ?_, a2, a3, a4, a5, fun q q1 q2 => ?_, a7, a8⟩
  · rw [a1 c]
    constructor
    · rintro (e | ⟨j, j1, j2, j3⟩)
      · exact .inl e
      · exact .inr ⟨j, j1, by omega, j3⟩
    · rintro (e | ⟨j, j1, j2, j3, j4⟩)
      · exact .inl e
      · by_cases e : j = i
        · subst e; subst j3
          have := a2 (fi j)
          have h1 : mk (fi j) = 1 := by
            have : ¬ mk (fi j) = 0 := fun e => hp ⟨j4, e⟩
            omega
          exact (a1 _).mp h1
        · exact .inr ⟨j, j1, by omega, j3, j4⟩
  · obtain ⟨b1, b2, j, j1, j2, j3⟩ := a6 q q1 q2
    exact ⟨b1, b2, j, j1, by omega, j3⟩
theorem MkS_yes {p : Int → Bool} {fi m0 q0 mk qu mk' qu' : Int → Int} {i w len : Int} (h : MkS p fi i m0 q0 w mk qu len) (hp : p (fi i) = true) (hm : mk (fi i) = 0) (hi : 0 ≤ i) (hf : 0 ≤ fi i ∧ fi i ≤ 199) (hmk : ∀ c, mk' c = if c = fi i then 1 else mk c) (hqu : ∀ q, qu' q = if q = len then fi i else qu q) : MkS p fi (i + 1) m0 q0 w mk' qu' (len + 1) := by
  obtain ⟨a1, a2, a3, a4, a5, a6, a7, a8⟩ := h
  refine ⟨fun c => ?_, fun c => ?_, fun c => ?_, by omega, fun q q1 => ?_, fun q q1 q2 => ?_, fun c hc => ?_, ?_⟩
  · rw [hmk c]
    by_cases e : c = fi i
    · rw [if_pos e]
      exact ⟨fun _ => .inr ⟨i, hi, by omega, e.symm, by rw [e]; exact hp⟩, fun _ => rfl⟩
    · rw [if_neg e, a1 c]
      constructor
      · rintro (e | ⟨j, j1, j2, j3⟩)
        · exact .inl e
        · exact .inr ⟨j, j1, by omega, j3⟩
      · rintro (e' | ⟨j, j1, j2, j3, j4⟩)
        · exact .inl e'
        · by_cases e2 : j = i
          · subst e2; exact absurd j3.symm e
          · exact .inr ⟨j, j1, by omega, j3, j4⟩
  · rw [hmk c]; split
    · omega
    · exact a2 c
  · rw [hqu c]; split
    · exact hf
    · exact a3 c
  · rw [hqu q, if_neg (by omega)]; exact a5 q q1
  · rw [hqu q]
    by_cases e : q = len
    · rw [if_pos e]
      exact ⟨by rw [hmk, if_pos rfl], hp, i, hi, by omega, rfl⟩
    · rw [if_neg e]
      obtain ⟨b1, b2, j, j1, j2, j3⟩ := a6 q q1 (by omega)
      refine ⟨?_, b2, j, j1, by omega, j3⟩
      rw [hmk]; split
      · rfl
      · exact b1
  · rw [hmk c] at hc
    by_cases e : c = fi i
    · exact .inr ⟨len, a4, by omega, by rw [hqu, if_pos rfl, e]⟩
    · rw [if_neg e] at hc
      rcases a7 c hc with h1 | ⟨q, q1, q2, q3⟩
      · exact .inl h1
      · exact .inr ⟨q, q1, by omega, by rw [hqu, if_neg (by omega)]; exact q3⟩
  · have := sumf_upd (f := mk) (f' := mk') (c := fi i) (z := 1) 200 0 hf.1 (by omega) (fun j hj => by rw [hmk, if_neg hj]) (by rw [hmk, if_pos rfl])
    rw [this, hm]
    omega
theorem sum_room {mk : Int → Int} {c : Int} (h : ∀ c, 0 ≤ mk c ∧ mk c ≤ 1) (hc : 0 ≤ c) (hc2 : c < 200) (hm : mk c = 0) : sumf mk 0 200 < 200 := by
  have h1 := sumf_upd (f := mk) (f' := fun j => if j = c then 1 else mk j) (c := c) (z := 1) 200 0 hc (by omega) (fun j hj => by simp [hj]) (by simp)
  have h2 := sumf_rng (f := fun j => if j = c then 1 else mk j) (lo := 0) (hi := 1) 200 0 (fun j _ _ => by have := h j; split <;> omega)
  rw [hm] at h1
  omega
theorem l_markStep {l : Nat} {c n w : Int} {tu : Bool} (hS : LkS S l) (hc : 0 ≤ c) (hc2 : c < 200) (hn : g l 2 = n) (hn2 : n ≤ 200) (hF : rg g (l + 2) 0 199) (hw : 0 ≤ w) (hw2 : w ≤ sumf (g (l + 6)) 0 200) : ∀ (m : Nat) (i len : Int) (g' : xGm) (y6 y7 : Option Value), i + m = n → 0 ≤ i → (∀ h, ¬ h = l + 6 → ¬ h = l + 7 → g' h = g h) → MkS (nea tu (g (l + 1)) c) (g (l + 2)) i (g (l + 6)) (g (l + 7)) w (g' (l + 6)) (g' (l + 7)) len →
    ∃ len' g'', (∀ h, ¬ h = l + 6 → ¬ h = l + 7 → g'' h = g h) ∧ MkS (nea tu (g (l + 1)) c) (g (l + 2)) n (g (l + 6)) (g (l + 7)) w (g'' (l + 6)) (g'' (l + 7)) len' ∧ ∀ Q, Wx X (d + 1) 110 6 [some (.ref l), some (.int (iI c)), some (.int (iI (if tu = true then 1 else 0))), some (.int (iI w)), some (.int (iI len)), some (.int (iI i)), y6, y7] [] (hp S g') Q = Q (.inl (some (.int (iI len')))) (hp S g'') := by
  have hS' := hS
  obtain ⟨h0, h1, h2, h3, h4, h5, h6, h7, h8⟩ := hS'
  intro m
  induction m with
  | zero =>
    intro i len g' y6 y7 hi h hfr hst
    obtain rfl : i = n := by omega
    have ti' : ti i = i := ti_eq (by omega) (by omega)
    have e2 : g' l 2 = i := by rw [hfr l (by omega) (by omega)]; exact hn
    refine ⟨len, g', hfr, hst, fun Q => ?_⟩
    rw [w_iload5 (pc' := 8) q110 d110_6 rfl]
    simp (config := { decide := true }) only [w_aload_n0 (pc' := 9) q110 d110_8 rfl, w_getI (pc' := 12) q110 d110_9 rfl f110_38, w_icmp_ge (tg := 96) (pc' := 15) q110 d110_12 (by decide) rfl, w_aload_n0 (pc' := 16) q110 d110_15 rfl, w_getV (pc' := 19) q110 d110_16 rfl f110_15, w_iload5 (pc' := 21) q110 d110_19 rfl, w_iaload (pc' := 22) q110 d110_21 rfl, w_istore6 (pc' := 24) q110 d110_22 rfl, w_iload_n2 (pc' := 25) q110 d110_24 rfl, w_if_eq (tg := 38) (pc' := 28) q110 d110_25 (by decide) rfl, w_aload_n0 (pc' := 29) q110 d110_28 rfl, w_iload6 (pc' := 31) q110 d110_29 rfl, w_iload_n1 (pc' := 32) q110 d110_31 rfl, w_invv2 (ci := 6) (pc' := 35) q110 d110_32 rfl n110_105 k110_105_6 m106.1, w_goto (tg := 45) q110 d110_35 (by decide), w_aload_n0 (pc' := 39) q110 d110_38 rfl, w_iload_n1 (pc' := 40) q110 d110_39 rfl, w_iload6 (pc' := 42) q110 d110_40 rfl, w_invv2 (ci := 6) (pc' := 45) q110 d110_42 rfl n110_105 k110_105_6 m106.1, w_istore7 (pc' := 47) q110 d110_45 rfl, w_iload7 (pc' := 49) q110 d110_47 rfl, w_if_eq (tg := 90) (pc' := 52) q110 d110_49 (by decide) rfl, w_aload_n0 (pc' := 53) q110 d110_52 rfl, w_getV (pc' := 56) q110 d110_53 rfl f110_28, w_iload6 (pc' := 58) q110 d110_56 rfl, w_zaload (pc' := 59) q110 d110_58 rfl, w_baload (pc' := 59) q110 d110_58 rfl, w_if_ne (tg := 90) (pc' := 62) q110 d110_59 (by decide) rfl, w_iload4 (pc' := 64) q110 d110_62 rfl, w_sipush (z' := (200)) (pc' := 67) q110 d110_64 rfl (by decide), w_icmp_ge (tg := 90) (pc' := 70) q110 d110_67 (by decide) rfl, w_aload_n0 (pc' := 71) q110 d110_70 rfl, w_getV (pc' := 74) q110 d110_71 rfl f110_28, w_iload6 (pc' := 76) q110 d110_74 rfl, w_iconst (pc' := 77) q110 d110_76 rfl, w_zastore (pc' := 78) q110 d110_77 rfl, w_bastore (pc' := 78) q110 d110_77 rfl, w_aload_n0 (pc' := 79) q110 d110_78 rfl, w_getV (pc' := 82) q110 d110_79 rfl f110_32, w_iload4 (pc' := 84) q110 d110_82 rfl, w_iload6 (pc' := 86) q110 d110_84 rfl, w_iastore (pc' := 87) q110 d110_86 rfl, w_iinc4 (z := (1)) (pc' := 90) q110 d110_87 rfl, w_iinc5 (z := (1)) (pc' := 93) q110 d110_90 rfl, w_goto (tg := 6) q110 d110_93 (by decide), w_iload4 (pc' := 98) q110 d110_96 rfl, w_ireturn q110 d110_98 m110.2.1, gs_off, gs_off0, gs_0off, gs_2, xN_0, xN_2, xN_3, xN_6, xN_7, xN_8, xN_9, xN_10, xN_11, xN_12, xN_13, xN_14, xN_15, xN_16, xN_17, xN_18, xN_19, xN_20, xN_21, xN_22, xN_23, xN_24, xN_25, xN_26, xN_27, xN_28, xN_29, xN_30, xN_31, xN_32, xN_33, xN_34, xN_35, xN_36, xN_37, xN_38, xN_39, xN_40, xN_41, xN_42, xN_43, xN_44, xN_45, xN_46, xN_47, xN_48, xN_49, xN_50, xN_51, xN_52, xN_53, xN_54, xN_55, ti_0, ti_1, ti_2, ti_3, ti_4, ti_5, ti_6, ti_7, ti_8, ti_9, ti_10, ti_16, ti_19, ti_20, ti_29, ti_30, ti_31, ti_32, ti_35, ti_36, ti_38, ti_39, ti_40, ti_41, ti_42, ti_43, ti_44, ti_45, ti_46, ti_47, ti_48, ti_49, ti_50, ti_51, ti_52, ti_53, ti_54, ti_55, ti_56, ti_57, ti_58, ti_59, ti_60, ti_61, ti_62, ti_63, ti_64, ti_65, ti_74, ti_77, ti_126, ti_200, ti_201, ti_202, ti_203, ti_204, ti_205, ti_210, ti_255, ti_256, ti_400, ti_512, ti_600, ti_601, ti_602, ti_1000, ti_1023, ti_1024, ti_2000, ti_10000, ti_12602, ti_999999, ti_m999999, ti_m1, ti_2000000, ti_3000000, xN_1, xN_4, xN_5, xN_60, xN_61, xN_64, xN_200, xN_800, xN_12000, xN_12602, eq_self, and_self, and_true, true_and, if_true, if_false, decide_true, Nat.reduceLeDiff, xc2_int, xc2_ref, xc2_ra, xc2_null, xc2_long, xc2_none, xisaT_ref, xisaT_ra, xisaT_null, xc1T_int, xc1T_ref, xc1T_ra, xc1T_null, xsum_nil, xsum_int, xsum_ref, xsum_ra, xsum_long, xsum_double, xsum_null, xfl_nil, xfl_int, xfl_ref, xfl_ra, xfl_null, xfl_long, xfl_double, List.length_cons, List.length_nil, h0, e2, ti', Int.le_refl, xfk, xfv, xak, xan, xcls, xsv', List.getElem?_cons_zero, List.getElem?_cons_succ, List.getD_cons_zero, List.getD_cons_succ, Option.getD_some, Option.isSome_some, if_true, if_pos, xcont, Option.toList_none, Option.toList_some, List.nil_append, List.cons_append]
  | succ m ih =>
    intro i len g' y6 y7 hi h hfr hst
    have ti' : ti i = i := ti_eq (by omega) (by omega)
    have tn : ti n = n := ti_eq (by omega) (by omega)
    have hlt : ¬ n ≤ i := by omega
    have b2 : i < 200 := by omega
    have e2 : g' l 2 = n := by rw [hfr l (by omega) (by omega)]; exact hn
    have er : g' (l + 2) = g (l + 2) := hfr _ (by omega) (by omega)
    have e1 : g' (l + 1) = g (l + 1) := hfr _ (by omega) (by omega)
    have f := hF i
    have f2 : g (l + 2) i < 200 := by omega
    have tf : ti (g (l + 2) i) = g (l + 2) i := ti_eq (by omega) (by omega)
    have hmr := hst.2.1 (g (l + 2) i)
    have tM : ti (g' (l + 6) (g (l + 2) i)) = g' (l + 6) (g (l + 2) i) := ti_eq (by omega) (by omega)
    have z1 : xnz 1 = 1 := by decide
    have hlen := hst.2.2.2.2.2.2.2
    have hlw := hst.2.2.2.1
    have cr1 := fun Q => c_refers (X := X) (d := d) (g := g') (Q := Q) hS f.1 f2 hc hc2
    have cr2 := fun Q => c_refers (X := X) (d := d) (g := g') (Q := Q) hS hc hc2 f.1 f2
    rw [e1] at cr1 cr2
    by_cases hp : nea tu (g (l + 1)) c (g (l + 2) i) = true
    · by_cases hm : g' (l + 6) (g (l + 2) i) = 0
      · have hroom := sum_room hst.2.1 f.1 f2 hm
        have tl' : ti len = len := ti_eq (by omega) (by omega)
        have hl2 : ¬ 200 ≤ len := by omega
        have hl3 : len < 200 := by omega
        have hl0 : 0 ≤ len := by omega
        obtain ⟨len', g'', k1, k2, k3⟩ := ih (i + 1) (len + 1) (gs (gs g' (l + 6) (g (l + 2) i) 1) (l + 7) len (g (l + 2) i)) (some (.int (iI (g (l + 2) i)))) (some (.int (iI 1))) (by omega) (by omega) (fun h a b => by rw [gs_row _ _ _ b, gs_row _ _ _ a]; exact hfr h a b) (MkS_yes hst hp hm h f (fun c => by rw [gs_off (by decide), gs_at]) (fun q => by rw [gs_at, gs_off (by decide)]))
        refine ⟨len', g'', k1, k2, fun Q => ?_⟩
        rw [w_iload5 (pc' := 8) q110 d110_6 rfl]
        unfold nea at hp
        cases tu
        · rw [if_neg (by decide)] at hp
          simp (config := { decide := true }) only [w_aload_n0 (pc' := 9) q110 d110_8 rfl, w_getI (pc' := 12) q110 d110_9 rfl f110_38, w_icmp_ge (tg := 96) (pc' := 15) q110 d110_12 (by decide) rfl, w_aload_n0 (pc' := 16) q110 d110_15 rfl, w_getV (pc' := 19) q110 d110_16 rfl f110_15, w_iload5 (pc' := 21) q110 d110_19 rfl, w_iaload (pc' := 22) q110 d110_21 rfl, w_istore6 (pc' := 24) q110 d110_22 rfl, w_iload_n2 (pc' := 25) q110 d110_24 rfl, w_if_eq (tg := 38) (pc' := 28) q110 d110_25 (by decide) rfl, w_aload_n0 (pc' := 29) q110 d110_28 rfl, w_iload6 (pc' := 31) q110 d110_29 rfl, w_iload_n1 (pc' := 32) q110 d110_31 rfl, w_invv2 (ci := 6) (pc' := 35) q110 d110_32 rfl n110_105 k110_105_6 m106.1, w_goto (tg := 45) q110 d110_35 (by decide), w_aload_n0 (pc' := 39) q110 d110_38 rfl, w_iload_n1 (pc' := 40) q110 d110_39 rfl, w_iload6 (pc' := 42) q110 d110_40 rfl, w_invv2 (ci := 6) (pc' := 45) q110 d110_42 rfl n110_105 k110_105_6 m106.1, w_istore7 (pc' := 47) q110 d110_45 rfl, w_iload7 (pc' := 49) q110 d110_47 rfl, w_if_eq (tg := 90) (pc' := 52) q110 d110_49 (by decide) rfl, w_aload_n0 (pc' := 53) q110 d110_52 rfl, w_getV (pc' := 56) q110 d110_53 rfl f110_28, w_iload6 (pc' := 58) q110 d110_56 rfl, w_zaload (pc' := 59) q110 d110_58 rfl, w_baload (pc' := 59) q110 d110_58 rfl, w_if_ne (tg := 90) (pc' := 62) q110 d110_59 (by decide) rfl, w_iload4 (pc' := 64) q110 d110_62 rfl, w_sipush (z' := (200)) (pc' := 67) q110 d110_64 rfl (by decide), w_icmp_ge (tg := 90) (pc' := 70) q110 d110_67 (by decide) rfl, w_aload_n0 (pc' := 71) q110 d110_70 rfl, w_getV (pc' := 74) q110 d110_71 rfl f110_28, w_iload6 (pc' := 76) q110 d110_74 rfl, w_iconst (pc' := 77) q110 d110_76 rfl, w_zastore (pc' := 78) q110 d110_77 rfl, w_bastore (pc' := 78) q110 d110_77 rfl, w_aload_n0 (pc' := 79) q110 d110_78 rfl, w_getV (pc' := 82) q110 d110_79 rfl f110_32, w_iload4 (pc' := 84) q110 d110_82 rfl, w_iload6 (pc' := 86) q110 d110_84 rfl, w_iastore (pc' := 87) q110 d110_86 rfl, w_iinc4 (z := (1)) (pc' := 90) q110 d110_87 rfl, w_iinc5 (z := (1)) (pc' := 93) q110 d110_90 rfl, w_goto (tg := 6) q110 d110_93 (by decide), gs_off, gs_off0, gs_0off, gs_2, xN_0, xN_2, xN_3, xN_6, xN_7, xN_8, xN_9, xN_10, xN_11, xN_12, xN_13, xN_14, xN_15, xN_16, xN_17, xN_18, xN_19, xN_20, xN_21, xN_22, xN_23, xN_24, xN_25, xN_26, xN_27, xN_28, xN_29, xN_30, xN_31, xN_32, xN_33, xN_34, xN_35, xN_36, xN_37, xN_38, xN_39, xN_40, xN_41, xN_42, xN_43, xN_44, xN_45, xN_46, xN_47, xN_48, xN_49, xN_50, xN_51, xN_52, xN_53, xN_54, xN_55, ti_0, ti_1, ti_2, ti_3, ti_4, ti_5, ti_6, ti_7, ti_8, ti_9, ti_10, ti_16, ti_19, ti_20, ti_29, ti_30, ti_31, ti_32, ti_35, ti_36, ti_38, ti_39, ti_40, ti_41, ti_42, ti_43, ti_44, ti_45, ti_46, ti_47, ti_48, ti_49, ti_50, ti_51, ti_52, ti_53, ti_54, ti_55, ti_56, ti_57, ti_58, ti_59, ti_60, ti_61, ti_62, ti_63, ti_64, ti_65, ti_74, ti_77, ti_126, ti_200, ti_201, ti_202, ti_203, ti_204, ti_205, ti_210, ti_255, ti_256, ti_400, ti_512, ti_600, ti_601, ti_602, ti_1000, ti_1023, ti_1024, ti_2000, ti_10000, ti_12602, ti_999999, ti_m999999, ti_m1, ti_2000000, ti_3000000, xN_1, xN_4, xN_5, xN_60, xN_61, xN_64, xN_200, xN_800, xN_12000, xN_12602, eq_self, and_self, and_true, true_and, if_true, if_false, decide_true, Nat.reduceLeDiff, xc2_int, xc2_ref, xc2_ra, xc2_null, xc2_long, xc2_none, xisaT_ref, xisaT_ra, xisaT_null, xc1T_int, xc1T_ref, xc1T_ra, xc1T_null, xsum_nil, xsum_int, xsum_ref, xsum_ra, xsum_long, xsum_double, xsum_null, xfl_nil, xfl_int, xfl_ref, xfl_ra, xfl_null, xfl_long, xfl_double, List.length_cons, List.length_nil, h0, h2, h6, h7, e2, er, ti', tn, hlt, h, b2, tf, f.1, f2, cr1, cr2, hp, tM, hm, tl', hl2, hl3, hl0, z1, Bool.false_eq_true, xfk, xfv, xak, xan, xcls, xsv', List.getElem?_cons_zero, List.getElem?_cons_succ, List.getD_cons_zero, List.getD_cons_succ, Option.getD_some, Option.isSome_some, if_true, if_pos, xcont, Option.toList_none, Option.toList_some, List.nil_append, List.cons_append]
          exact k3 Q
        · rw [if_pos rfl] at hp
          simp (config := { decide := true }) only [w_aload_n0 (pc' := 9) q110 d110_8 rfl, w_getI (pc' := 12) q110 d110_9 rfl f110_38, w_icmp_ge (tg := 96) (pc' := 15) q110 d110_12 (by decide) rfl, w_aload_n0 (pc' := 16) q110 d110_15 rfl, w_getV (pc' := 19) q110 d110_16 rfl f110_15, w_iload5 (pc' := 21) q110 d110_19 rfl, w_iaload (pc' := 22) q110 d110_21 rfl, w_istore6 (pc' := 24) q110 d110_22 rfl, w_iload_n2 (pc' := 25) q110 d110_24 rfl, w_if_eq (tg := 38) (pc' := 28) q110 d110_25 (by decide) rfl, w_aload_n0 (pc' := 29) q110 d110_28 rfl, w_iload6 (pc' := 31) q110 d110_29 rfl, w_iload_n1 (pc' := 32) q110 d110_31 rfl, w_invv2 (ci := 6) (pc' := 35) q110 d110_32 rfl n110_105 k110_105_6 m106.1, w_goto (tg := 45) q110 d110_35 (by decide), w_aload_n0 (pc' := 39) q110 d110_38 rfl, w_iload_n1 (pc' := 40) q110 d110_39 rfl, w_iload6 (pc' := 42) q110 d110_40 rfl, w_invv2 (ci := 6) (pc' := 45) q110 d110_42 rfl n110_105 k110_105_6 m106.1, w_istore7 (pc' := 47) q110 d110_45 rfl, w_iload7 (pc' := 49) q110 d110_47 rfl, w_if_eq (tg := 90) (pc' := 52) q110 d110_49 (by decide) rfl, w_aload_n0 (pc' := 53) q110 d110_52 rfl, w_getV (pc' := 56) q110 d110_53 rfl f110_28, w_iload6 (pc' := 58) q110 d110_56 rfl, w_zaload (pc' := 59) q110 d110_58 rfl, w_baload (pc' := 59) q110 d110_58 rfl, w_if_ne (tg := 90) (pc' := 62) q110 d110_59 (by decide) rfl, w_iload4 (pc' := 64) q110 d110_62 rfl, w_sipush (z' := (200)) (pc' := 67) q110 d110_64 rfl (by decide), w_icmp_ge (tg := 90) (pc' := 70) q110 d110_67 (by decide) rfl, w_aload_n0 (pc' := 71) q110 d110_70 rfl, w_getV (pc' := 74) q110 d110_71 rfl f110_28, w_iload6 (pc' := 76) q110 d110_74 rfl, w_iconst (pc' := 77) q110 d110_76 rfl, w_zastore (pc' := 78) q110 d110_77 rfl, w_bastore (pc' := 78) q110 d110_77 rfl, w_aload_n0 (pc' := 79) q110 d110_78 rfl, w_getV (pc' := 82) q110 d110_79 rfl f110_32, w_iload4 (pc' := 84) q110 d110_82 rfl, w_iload6 (pc' := 86) q110 d110_84 rfl, w_iastore (pc' := 87) q110 d110_86 rfl, w_iinc4 (z := (1)) (pc' := 90) q110 d110_87 rfl, w_iinc5 (z := (1)) (pc' := 93) q110 d110_90 rfl, w_goto (tg := 6) q110 d110_93 (by decide), gs_off, gs_off0, gs_0off, gs_2, xN_0, xN_2, xN_3, xN_6, xN_7, xN_8, xN_9, xN_10, xN_11, xN_12, xN_13, xN_14, xN_15, xN_16, xN_17, xN_18, xN_19, xN_20, xN_21, xN_22, xN_23, xN_24, xN_25, xN_26, xN_27, xN_28, xN_29, xN_30, xN_31, xN_32, xN_33, xN_34, xN_35, xN_36, xN_37, xN_38, xN_39, xN_40, xN_41, xN_42, xN_43, xN_44, xN_45, xN_46, xN_47, xN_48, xN_49, xN_50, xN_51, xN_52, xN_53, xN_54, xN_55, ti_0, ti_1, ti_2, ti_3, ti_4, ti_5, ti_6, ti_7, ti_8, ti_9, ti_10, ti_16, ti_19, ti_20, ti_29, ti_30, ti_31, ti_32, ti_35, ti_36, ti_38, ti_39, ti_40, ti_41, ti_42, ti_43, ti_44, ti_45, ti_46, ti_47, ti_48, ti_49, ti_50, ti_51, ti_52, ti_53, ti_54, ti_55, ti_56, ti_57, ti_58, ti_59, ti_60, ti_61, ti_62, ti_63, ti_64, ti_65, ti_74, ti_77, ti_126, ti_200, ti_201, ti_202, ti_203, ti_204, ti_205, ti_210, ti_255, ti_256, ti_400, ti_512, ti_600, ti_601, ti_602, ti_1000, ti_1023, ti_1024, ti_2000, ti_10000, ti_12602, ti_999999, ti_m999999, ti_m1, ti_2000000, ti_3000000, xN_1, xN_4, xN_5, xN_60, xN_61, xN_64, xN_200, xN_800, xN_12000, xN_12602, eq_self, and_self, and_true, true_and, if_true, if_false, decide_true, Nat.reduceLeDiff, xc2_int, xc2_ref, xc2_ra, xc2_null, xc2_long, xc2_none, xisaT_ref, xisaT_ra, xisaT_null, xc1T_int, xc1T_ref, xc1T_ra, xc1T_null, xsum_nil, xsum_int, xsum_ref, xsum_ra, xsum_long, xsum_double, xsum_null, xfl_nil, xfl_int, xfl_ref, xfl_ra, xfl_null, xfl_long, xfl_double, List.length_cons, List.length_nil, h0, h2, h6, h7, e2, er, ti', tn, hlt, h, b2, tf, f.1, f2, cr1, cr2, hp, tM, hm, tl', hl2, hl3, hl0, z1, xfk, xfv, xak, xan, xcls, xsv', List.getElem?_cons_zero, List.getElem?_cons_succ, List.getD_cons_zero, List.getD_cons_succ, Option.getD_some, Option.isSome_some, if_true, if_pos, xcont, Option.toList_none, Option.toList_some, List.nil_append, List.cons_append]
          exact k3 Q
      · obtain ⟨len', g'', k1, k2, k3⟩ := ih (i + 1) len g' (some (.int (iI (g (l + 2) i)))) (some (.int (iI 1))) (by omega) (by omega) hfr (MkS_no hst (fun e => hm e.2) h)
        refine ⟨len', g'', k1, k2, fun Q => ?_⟩
        rw [w_iload5 (pc' := 8) q110 d110_6 rfl]
        unfold nea at hp
        cases tu
        · rw [if_neg (by decide)] at hp
          simp (config := { decide := true }) only [w_aload_n0 (pc' := 9) q110 d110_8 rfl, w_getI (pc' := 12) q110 d110_9 rfl f110_38, w_icmp_ge (tg := 96) (pc' := 15) q110 d110_12 (by decide) rfl, w_aload_n0 (pc' := 16) q110 d110_15 rfl, w_getV (pc' := 19) q110 d110_16 rfl f110_15, w_iload5 (pc' := 21) q110 d110_19 rfl, w_iaload (pc' := 22) q110 d110_21 rfl, w_istore6 (pc' := 24) q110 d110_22 rfl, w_iload_n2 (pc' := 25) q110 d110_24 rfl, w_if_eq (tg := 38) (pc' := 28) q110 d110_25 (by decide) rfl, w_aload_n0 (pc' := 29) q110 d110_28 rfl, w_iload6 (pc' := 31) q110 d110_29 rfl, w_iload_n1 (pc' := 32) q110 d110_31 rfl, w_invv2 (ci := 6) (pc' := 35) q110 d110_32 rfl n110_105 k110_105_6 m106.1, w_goto (tg := 45) q110 d110_35 (by decide), w_aload_n0 (pc' := 39) q110 d110_38 rfl, w_iload_n1 (pc' := 40) q110 d110_39 rfl, w_iload6 (pc' := 42) q110 d110_40 rfl, w_invv2 (ci := 6) (pc' := 45) q110 d110_42 rfl n110_105 k110_105_6 m106.1, w_istore7 (pc' := 47) q110 d110_45 rfl, w_iload7 (pc' := 49) q110 d110_47 rfl, w_if_eq (tg := 90) (pc' := 52) q110 d110_49 (by decide) rfl, w_aload_n0 (pc' := 53) q110 d110_52 rfl, w_getV (pc' := 56) q110 d110_53 rfl f110_28, w_iload6 (pc' := 58) q110 d110_56 rfl, w_zaload (pc' := 59) q110 d110_58 rfl, w_baload (pc' := 59) q110 d110_58 rfl, w_if_ne (tg := 90) (pc' := 62) q110 d110_59 (by decide) rfl, w_iload4 (pc' := 64) q110 d110_62 rfl, w_sipush (z' := (200)) (pc' := 67) q110 d110_64 rfl (by decide), w_icmp_ge (tg := 90) (pc' := 70) q110 d110_67 (by decide) rfl, w_aload_n0 (pc' := 71) q110 d110_70 rfl, w_getV (pc' := 74) q110 d110_71 rfl f110_28, w_iload6 (pc' := 76) q110 d110_74 rfl, w_iconst (pc' := 77) q110 d110_76 rfl, w_zastore (pc' := 78) q110 d110_77 rfl, w_bastore (pc' := 78) q110 d110_77 rfl, w_aload_n0 (pc' := 79) q110 d110_78 rfl, w_getV (pc' := 82) q110 d110_79 rfl f110_32, w_iload4 (pc' := 84) q110 d110_82 rfl, w_iload6 (pc' := 86) q110 d110_84 rfl, w_iastore (pc' := 87) q110 d110_86 rfl, w_iinc4 (z := (1)) (pc' := 90) q110 d110_87 rfl, w_iinc5 (z := (1)) (pc' := 93) q110 d110_90 rfl, w_goto (tg := 6) q110 d110_93 (by decide), gs_off, gs_off0, gs_0off, gs_2, xN_0, xN_2, xN_3, xN_6, xN_7, xN_8, xN_9, xN_10, xN_11, xN_12, xN_13, xN_14, xN_15, xN_16, xN_17, xN_18, xN_19, xN_20, xN_21, xN_22, xN_23, xN_24, xN_25, xN_26, xN_27, xN_28, xN_29, xN_30, xN_31, xN_32, xN_33, xN_34, xN_35, xN_36, xN_37, xN_38, xN_39, xN_40, xN_41, xN_42, xN_43, xN_44, xN_45, xN_46, xN_47, xN_48, xN_49, xN_50, xN_51, xN_52, xN_53, xN_54, xN_55, ti_0, ti_1, ti_2, ti_3, ti_4, ti_5, ti_6, ti_7, ti_8, ti_9, ti_10, ti_16, ti_19, ti_20, ti_29, ti_30, ti_31, ti_32, ti_35, ti_36, ti_38, ti_39, ti_40, ti_41, ti_42, ti_43, ti_44, ti_45, ti_46, ti_47, ti_48, ti_49, ti_50, ti_51, ti_52, ti_53, ti_54, ti_55, ti_56, ti_57, ti_58, ti_59, ti_60, ti_61, ti_62, ti_63, ti_64, ti_65, ti_74, ti_77, ti_126, ti_200, ti_201, ti_202, ti_203, ti_204, ti_205, ti_210, ti_255, ti_256, ti_400, ti_512, ti_600, ti_601, ti_602, ti_1000, ti_1023, ti_1024, ti_2000, ti_10000, ti_12602, ti_999999, ti_m999999, ti_m1, ti_2000000, ti_3000000, xN_1, xN_4, xN_5, xN_60, xN_61, xN_64, xN_200, xN_800, xN_12000, xN_12602, eq_self, and_self, and_true, true_and, if_true, if_false, decide_true, Nat.reduceLeDiff, xc2_int, xc2_ref, xc2_ra, xc2_null, xc2_long, xc2_none, xisaT_ref, xisaT_ra, xisaT_null, xc1T_int, xc1T_ref, xc1T_ra, xc1T_null, xsum_nil, xsum_int, xsum_ref, xsum_ra, xsum_long, xsum_double, xsum_null, xfl_nil, xfl_int, xfl_ref, xfl_ra, xfl_null, xfl_long, xfl_double, List.length_cons, List.length_nil, h0, h2, h6, h7, e2, er, ti', tn, hlt, h, b2, tf, f.1, f2, cr1, cr2, hp, tM, hm, Bool.false_eq_true, xfk, xfv, xak, xan, xcls, xsv', List.getElem?_cons_zero, List.getElem?_cons_succ, List.getD_cons_zero, List.getD_cons_succ, Option.getD_some, Option.isSome_some, if_true, if_pos, xcont, Option.toList_none, Option.toList_some, List.nil_append, List.cons_append]
          exact k3 Q
        · rw [if_pos rfl] at hp
          simp (config := { decide := true }) only [w_aload_n0 (pc' := 9) q110 d110_8 rfl, w_getI (pc' := 12) q110 d110_9 rfl f110_38, w_icmp_ge (tg := 96) (pc' := 15) q110 d110_12 (by decide) rfl, w_aload_n0 (pc' := 16) q110 d110_15 rfl, w_getV (pc' := 19) q110 d110_16 rfl f110_15, w_iload5 (pc' := 21) q110 d110_19 rfl, w_iaload (pc' := 22) q110 d110_21 rfl, w_istore6 (pc' := 24) q110 d110_22 rfl, w_iload_n2 (pc' := 25) q110 d110_24 rfl, w_if_eq (tg := 38) (pc' := 28) q110 d110_25 (by decide) rfl, w_aload_n0 (pc' := 29) q110 d110_28 rfl, w_iload6 (pc' := 31) q110 d110_29 rfl, w_iload_n1 (pc' := 32) q110 d110_31 rfl, w_invv2 (ci := 6) (pc' := 35) q110 d110_32 rfl n110_105 k110_105_6 m106.1, w_goto (tg := 45) q110 d110_35 (by decide), w_aload_n0 (pc' := 39) q110 d110_38 rfl, w_iload_n1 (pc' := 40) q110 d110_39 rfl, w_iload6 (pc' := 42) q110 d110_40 rfl, w_invv2 (ci := 6) (pc' := 45) q110 d110_42 rfl n110_105 k110_105_6 m106.1, w_istore7 (pc' := 47) q110 d110_45 rfl, w_iload7 (pc' := 49) q110 d110_47 rfl, w_if_eq (tg := 90) (pc' := 52) q110 d110_49 (by decide) rfl, w_aload_n0 (pc' := 53) q110 d110_52 rfl, w_getV (pc' := 56) q110 d110_53 rfl f110_28, w_iload6 (pc' := 58) q110 d110_56 rfl, w_zaload (pc' := 59) q110 d110_58 rfl, w_baload (pc' := 59) q110 d110_58 rfl, w_if_ne (tg := 90) (pc' := 62) q110 d110_59 (by decide) rfl, w_iload4 (pc' := 64) q110 d110_62 rfl, w_sipush (z' := (200)) (pc' := 67) q110 d110_64 rfl (by decide), w_icmp_ge (tg := 90) (pc' := 70) q110 d110_67 (by decide) rfl, w_aload_n0 (pc' := 71) q110 d110_70 rfl, w_getV (pc' := 74) q110 d110_71 rfl f110_28, w_iload6 (pc' := 76) q110 d110_74 rfl, w_iconst (pc' := 77) q110 d110_76 rfl, w_zastore (pc' := 78) q110 d110_77 rfl, w_bastore (pc' := 78) q110 d110_77 rfl, w_aload_n0 (pc' := 79) q110 d110_78 rfl, w_getV (pc' := 82) q110 d110_79 rfl f110_32, w_iload4 (pc' := 84) q110 d110_82 rfl, w_iload6 (pc' := 86) q110 d110_84 rfl, w_iastore (pc' := 87) q110 d110_86 rfl, w_iinc4 (z := (1)) (pc' := 90) q110 d110_87 rfl, w_iinc5 (z := (1)) (pc' := 93) q110 d110_90 rfl, w_goto (tg := 6) q110 d110_93 (by decide), gs_off, gs_off0, gs_0off, gs_2, xN_0, xN_2, xN_3, xN_6, xN_7, xN_8, xN_9, xN_10, xN_11, xN_12, xN_13, xN_14, xN_15, xN_16, xN_17, xN_18, xN_19, xN_20, xN_21, xN_22, xN_23, xN_24, xN_25, xN_26, xN_27, xN_28, xN_29, xN_30, xN_31, xN_32, xN_33, xN_34, xN_35, xN_36, xN_37, xN_38, xN_39, xN_40, xN_41, xN_42, xN_43, xN_44, xN_45, xN_46, xN_47, xN_48, xN_49, xN_50, xN_51, xN_52, xN_53, xN_54, xN_55, ti_0, ti_1, ti_2, ti_3, ti_4, ti_5, ti_6, ti_7, ti_8, ti_9, ti_10, ti_16, ti_19, ti_20, ti_29, ti_30, ti_31, ti_32, ti_35, ti_36, ti_38, ti_39, ti_40, ti_41, ti_42, ti_43, ti_44, ti_45, ti_46, ti_47, ti_48, ti_49, ti_50, ti_51, ti_52, ti_53, ti_54, ti_55, ti_56, ti_57, ti_58, ti_59, ti_60, ti_61, ti_62, ti_63, ti_64, ti_65, ti_74, ti_77, ti_126, ti_200, ti_201, ti_202, ti_203, ti_204, ti_205, ti_210, ti_255, ti_256, ti_400, ti_512, ti_600, ti_601, ti_602, ti_1000, ti_1023, ti_1024, ti_2000, ti_10000, ti_12602, ti_999999, ti_m999999, ti_m1, ti_2000000, ti_3000000, xN_1, xN_4, xN_5, xN_60, xN_61, xN_64, xN_200, xN_800, xN_12000, xN_12602, eq_self, and_self, and_true, true_and, if_true, if_false, decide_true, Nat.reduceLeDiff, xc2_int, xc2_ref, xc2_ra, xc2_null, xc2_long, xc2_none, xisaT_ref, xisaT_ra, xisaT_null, xc1T_int, xc1T_ref, xc1T_ra, xc1T_null, xsum_nil, xsum_int, xsum_ref, xsum_ra, xsum_long, xsum_double, xsum_null, xfl_nil, xfl_int, xfl_ref, xfl_ra, xfl_null, xfl_long, xfl_double, List.length_cons, List.length_nil, h0, h2, h6, h7, e2, er, ti', tn, hlt, h, b2, tf, f.1, f2, cr1, cr2, hp, tM, hm, xfk, xfv, xak, xan, xcls, xsv', List.getElem?_cons_zero, List.getElem?_cons_succ, List.getD_cons_zero, List.getD_cons_succ, Option.getD_some, Option.isSome_some, if_true, if_pos, xcont, Option.toList_none, Option.toList_some, List.nil_append, List.cons_append]
          exact k3 Q
    · obtain ⟨len', g'', k1, k2, k3⟩ := ih (i + 1) len g' (some (.int (iI (g (l + 2) i)))) (some (.int (iI 0))) (by omega) (by omega) hfr (MkS_no hst (fun e => hp e.1) h)
      refine ⟨len', g'', k1, k2, fun Q => ?_⟩
      rw [w_iload5 (pc' := 8) q110 d110_6 rfl]
      unfold nea at hp
      cases tu
      · rw [if_neg (by decide)] at hp
        simp (config := { decide := true }) only [w_aload_n0 (pc' := 9) q110 d110_8 rfl, w_getI (pc' := 12) q110 d110_9 rfl f110_38, w_icmp_ge (tg := 96) (pc' := 15) q110 d110_12 (by decide) rfl, w_aload_n0 (pc' := 16) q110 d110_15 rfl, w_getV (pc' := 19) q110 d110_16 rfl f110_15, w_iload5 (pc' := 21) q110 d110_19 rfl, w_iaload (pc' := 22) q110 d110_21 rfl, w_istore6 (pc' := 24) q110 d110_22 rfl, w_iload_n2 (pc' := 25) q110 d110_24 rfl, w_if_eq (tg := 38) (pc' := 28) q110 d110_25 (by decide) rfl, w_aload_n0 (pc' := 29) q110 d110_28 rfl, w_iload6 (pc' := 31) q110 d110_29 rfl, w_iload_n1 (pc' := 32) q110 d110_31 rfl, w_invv2 (ci := 6) (pc' := 35) q110 d110_32 rfl n110_105 k110_105_6 m106.1, w_goto (tg := 45) q110 d110_35 (by decide), w_aload_n0 (pc' := 39) q110 d110_38 rfl, w_iload_n1 (pc' := 40) q110 d110_39 rfl, w_iload6 (pc' := 42) q110 d110_40 rfl, w_invv2 (ci := 6) (pc' := 45) q110 d110_42 rfl n110_105 k110_105_6 m106.1, w_istore7 (pc' := 47) q110 d110_45 rfl, w_iload7 (pc' := 49) q110 d110_47 rfl, w_if_eq (tg := 90) (pc' := 52) q110 d110_49 (by decide) rfl, w_aload_n0 (pc' := 53) q110 d110_52 rfl, w_getV (pc' := 56) q110 d110_53 rfl f110_28, w_iload6 (pc' := 58) q110 d110_56 rfl, w_zaload (pc' := 59) q110 d110_58 rfl, w_baload (pc' := 59) q110 d110_58 rfl, w_if_ne (tg := 90) (pc' := 62) q110 d110_59 (by decide) rfl, w_iload4 (pc' := 64) q110 d110_62 rfl, w_sipush (z' := (200)) (pc' := 67) q110 d110_64 rfl (by decide), w_icmp_ge (tg := 90) (pc' := 70) q110 d110_67 (by decide) rfl, w_aload_n0 (pc' := 71) q110 d110_70 rfl, w_getV (pc' := 74) q110 d110_71 rfl f110_28, w_iload6 (pc' := 76) q110 d110_74 rfl, w_iconst (pc' := 77) q110 d110_76 rfl, w_zastore (pc' := 78) q110 d110_77 rfl, w_bastore (pc' := 78) q110 d110_77 rfl, w_aload_n0 (pc' := 79) q110 d110_78 rfl, w_getV (pc' := 82) q110 d110_79 rfl f110_32, w_iload4 (pc' := 84) q110 d110_82 rfl, w_iload6 (pc' := 86) q110 d110_84 rfl, w_iastore (pc' := 87) q110 d110_86 rfl, w_iinc4 (z := (1)) (pc' := 90) q110 d110_87 rfl, w_iinc5 (z := (1)) (pc' := 93) q110 d110_90 rfl, w_goto (tg := 6) q110 d110_93 (by decide), gs_off, gs_off0, gs_0off, gs_2, xN_0, xN_2, xN_3, xN_6, xN_7, xN_8, xN_9, xN_10, xN_11, xN_12, xN_13, xN_14, xN_15, xN_16, xN_17, xN_18, xN_19, xN_20, xN_21, xN_22, xN_23, xN_24, xN_25, xN_26, xN_27, xN_28, xN_29, xN_30, xN_31, xN_32, xN_33, xN_34, xN_35, xN_36, xN_37, xN_38, xN_39, xN_40, xN_41, xN_42, xN_43, xN_44, xN_45, xN_46, xN_47, xN_48, xN_49, xN_50, xN_51, xN_52, xN_53, xN_54, xN_55, ti_0, ti_1, ti_2, ti_3, ti_4, ti_5, ti_6, ti_7, ti_8, ti_9, ti_10, ti_16, ti_19, ti_20, ti_29, ti_30, ti_31, ti_32, ti_35, ti_36, ti_38, ti_39, ti_40, ti_41, ti_42, ti_43, ti_44, ti_45, ti_46, ti_47, ti_48, ti_49, ti_50, ti_51, ti_52, ti_53, ti_54, ti_55, ti_56, ti_57, ti_58, ti_59, ti_60, ti_61, ti_62, ti_63, ti_64, ti_65, ti_74, ti_77, ti_126, ti_200, ti_201, ti_202, ti_203, ti_204, ti_205, ti_210, ti_255, ti_256, ti_400, ti_512, ti_600, ti_601, ti_602, ti_1000, ti_1023, ti_1024, ti_2000, ti_10000, ti_12602, ti_999999, ti_m999999, ti_m1, ti_2000000, ti_3000000, xN_1, xN_4, xN_5, xN_60, xN_61, xN_64, xN_200, xN_800, xN_12000, xN_12602, eq_self, and_self, and_true, true_and, if_true, if_false, decide_true, Nat.reduceLeDiff, xc2_int, xc2_ref, xc2_ra, xc2_null, xc2_long, xc2_none, xisaT_ref, xisaT_ra, xisaT_null, xc1T_int, xc1T_ref, xc1T_ra, xc1T_null, xsum_nil, xsum_int, xsum_ref, xsum_ra, xsum_long, xsum_double, xsum_null, xfl_nil, xfl_int, xfl_ref, xfl_ra, xfl_null, xfl_long, xfl_double, List.length_cons, List.length_nil, h0, h2, h6, h7, e2, er, ti', tn, hlt, h, b2, tf, f.1, f2, cr1, cr2, hp, Bool.false_eq_true, xfk, xfv, xak, xan, xcls, xsv', List.getElem?_cons_zero, List.getElem?_cons_succ, List.getD_cons_zero, List.getD_cons_succ, Option.getD_some, Option.isSome_some, if_true, if_pos, xcont, Option.toList_none, Option.toList_some, List.nil_append, List.cons_append]
        exact k3 Q
      · rw [if_pos rfl] at hp
        simp (config := { decide := true }) only [w_aload_n0 (pc' := 9) q110 d110_8 rfl, w_getI (pc' := 12) q110 d110_9 rfl f110_38, w_icmp_ge (tg := 96) (pc' := 15) q110 d110_12 (by decide) rfl, w_aload_n0 (pc' := 16) q110 d110_15 rfl, w_getV (pc' := 19) q110 d110_16 rfl f110_15, w_iload5 (pc' := 21) q110 d110_19 rfl, w_iaload (pc' := 22) q110 d110_21 rfl, w_istore6 (pc' := 24) q110 d110_22 rfl, w_iload_n2 (pc' := 25) q110 d110_24 rfl, w_if_eq (tg := 38) (pc' := 28) q110 d110_25 (by decide) rfl, w_aload_n0 (pc' := 29) q110 d110_28 rfl, w_iload6 (pc' := 31) q110 d110_29 rfl, w_iload_n1 (pc' := 32) q110 d110_31 rfl, w_invv2 (ci := 6) (pc' := 35) q110 d110_32 rfl n110_105 k110_105_6 m106.1, w_goto (tg := 45) q110 d110_35 (by decide), w_aload_n0 (pc' := 39) q110 d110_38 rfl, w_iload_n1 (pc' := 40) q110 d110_39 rfl, w_iload6 (pc' := 42) q110 d110_40 rfl, w_invv2 (ci := 6) (pc' := 45) q110 d110_42 rfl n110_105 k110_105_6 m106.1, w_istore7 (pc' := 47) q110 d110_45 rfl, w_iload7 (pc' := 49) q110 d110_47 rfl, w_if_eq (tg := 90) (pc' := 52) q110 d110_49 (by decide) rfl, w_aload_n0 (pc' := 53) q110 d110_52 rfl, w_getV (pc' := 56) q110 d110_53 rfl f110_28, w_iload6 (pc' := 58) q110 d110_56 rfl, w_zaload (pc' := 59) q110 d110_58 rfl, w_baload (pc' := 59) q110 d110_58 rfl, w_if_ne (tg := 90) (pc' := 62) q110 d110_59 (by decide) rfl, w_iload4 (pc' := 64) q110 d110_62 rfl, w_sipush (z' := (200)) (pc' := 67) q110 d110_64 rfl (by decide), w_icmp_ge (tg := 90) (pc' := 70) q110 d110_67 (by decide) rfl, w_aload_n0 (pc' := 71) q110 d110_70 rfl, w_getV (pc' := 74) q110 d110_71 rfl f110_28, w_iload6 (pc' := 76) q110 d110_74 rfl, w_iconst (pc' := 77) q110 d110_76 rfl, w_zastore (pc' := 78) q110 d110_77 rfl, w_bastore (pc' := 78) q110 d110_77 rfl, w_aload_n0 (pc' := 79) q110 d110_78 rfl, w_getV (pc' := 82) q110 d110_79 rfl f110_32, w_iload4 (pc' := 84) q110 d110_82 rfl, w_iload6 (pc' := 86) q110 d110_84 rfl, w_iastore (pc' := 87) q110 d110_86 rfl, w_iinc4 (z := (1)) (pc' := 90) q110 d110_87 rfl, w_iinc5 (z := (1)) (pc' := 93) q110 d110_90 rfl, w_goto (tg := 6) q110 d110_93 (by decide), gs_off, gs_off0, gs_0off, gs_2, xN_0, xN_2, xN_3, xN_6, xN_7, xN_8, xN_9, xN_10, xN_11, xN_12, xN_13, xN_14, xN_15, xN_16, xN_17, xN_18, xN_19, xN_20, xN_21, xN_22, xN_23, xN_24, xN_25, xN_26, xN_27, xN_28, xN_29, xN_30, xN_31, xN_32, xN_33, xN_34, xN_35, xN_36, xN_37, xN_38, xN_39, xN_40, xN_41, xN_42, xN_43, xN_44, xN_45, xN_46, xN_47, xN_48, xN_49, xN_50, xN_51, xN_52, xN_53, xN_54, xN_55, ti_0, ti_1, ti_2, ti_3, ti_4, ti_5, ti_6, ti_7, ti_8, ti_9, ti_10, ti_16, ti_19, ti_20, ti_29, ti_30, ti_31, ti_32, ti_35, ti_36, ti_38, ti_39, ti_40, ti_41, ti_42, ti_43, ti_44, ti_45, ti_46, ti_47, ti_48, ti_49, ti_50, ti_51, ti_52, ti_53, ti_54, ti_55, ti_56, ti_57, ti_58, ti_59, ti_60, ti_61, ti_62, ti_63, ti_64, ti_65, ti_74, ti_77, ti_126, ti_200, ti_201, ti_202, ti_203, ti_204, ti_205, ti_210, ti_255, ti_256, ti_400, ti_512, ti_600, ti_601, ti_602, ti_1000, ti_1023, ti_1024, ti_2000, ti_10000, ti_12602, ti_999999, ti_m999999, ti_m1, ti_2000000, ti_3000000, xN_1, xN_4, xN_5, xN_60, xN_61, xN_64, xN_200, xN_800, xN_12000, xN_12602, eq_self, and_self, and_true, true_and, if_true, if_false, decide_true, Nat.reduceLeDiff, xc2_int, xc2_ref, xc2_ra, xc2_null, xc2_long, xc2_none, xisaT_ref, xisaT_ra, xisaT_null, xc1T_int, xc1T_ref, xc1T_ra, xc1T_null, xsum_nil, xsum_int, xsum_ref, xsum_ra, xsum_long, xsum_double, xsum_null, xfl_nil, xfl_int, xfl_ref, xfl_ra, xfl_null, xfl_long, xfl_double, List.length_cons, List.length_nil, h0, h2, h6, h7, e2, er, ti', tn, hlt, h, b2, tf, f.1, f2, cr1, cr2, hp, xfk, xfv, xak, xan, xcls, xsv', List.getElem?_cons_zero, List.getElem?_cons_succ, List.getD_cons_zero, List.getD_cons_succ, Option.getD_some, Option.isSome_some, if_true, if_pos, xcont, Option.toList_none, Option.toList_some, List.nil_append, List.cons_append]
        exact k3 Q
theorem c_markStep {l : Nat} {c n w : Int} (tu : Bool) (hS : LkS S l) (hc : 0 ≤ c) (hc2 : c < 200) (hn : g l 2 = n) (hn0 : 0 ≤ n) (hn2 : n ≤ 200) (hF : rg g (l + 2) 0 199) (hM : rg g (l + 6) 0 1) (hQ : rg g (l + 7) 0 199) (hw : 0 ≤ w) (hw2 : w ≤ sumf (g (l + 6)) 0 200) :
    ∃ len' g'', (∀ h, ¬ h = l + 6 → ¬ h = l + 7 → g'' h = g h) ∧ MkS (nea tu (g (l + 1)) c) (g (l + 2)) n (g (l + 6)) (g (l + 7)) w (g'' (l + 6)) (g'' (l + 7)) len' ∧ ∀ Q, Cw X (d + 1) 110 [.ref l, .int (iI c), .int (iI (if tu = true then 1 else 0)), .int (iI w)] (hp S g) Q = Q (.inl (some (.int (iI len')))) (hp S g'') := by
  obtain ⟨len', g'', k1, k2, k3⟩ := l_markStep (X := X) (d := d) (tu := tu) hS hc hc2 hn hn2 hF hw hw2 n.toNat 0 w g none none (by omega) (by omega) (fun _ _ _ => rfl) ⟨fun c => ⟨.inl, fun h => h.elim id (fun ⟨j, a, b, _⟩ => by omega)⟩, hM, hQ, Int.le_refl _, fun _ _ => rfl, fun q a b => by omega, fun c h => .inl h, by omega⟩
  refine ⟨len', g'', k1, k2, fun Q => ?_⟩
  rw [e110]
  simp (config := { decide := true }) only [w_iload_n3 (pc' := 1) q110 d110_0 rfl, w_istore4 (pc' := 3) q110 d110_1 rfl, w_iconst (pc' := 4) q110 d110_3 rfl, w_istore5 (pc' := 6) q110 d110_4 rfl, gs_off, gs_off0, gs_0off, gs_2, xN_0, xN_2, xN_3, xN_6, xN_7, xN_8, xN_9, xN_10, xN_11, xN_12, xN_13, xN_14, xN_15, xN_16, xN_17, xN_18, xN_19, xN_20, xN_21, xN_22, xN_23, xN_24, xN_25, xN_26, xN_27, xN_28, xN_29, xN_30, xN_31, xN_32, xN_33, xN_34, xN_35, xN_36, xN_37, xN_38, xN_39, xN_40, xN_41, xN_42, xN_43, xN_44, xN_45, xN_46, xN_47, xN_48, xN_49, xN_50, xN_51, xN_52, xN_53, xN_54, xN_55, ti_0, ti_1, ti_2, ti_3, ti_4, ti_5, ti_6, ti_7, ti_8, ti_9, ti_10, ti_16, ti_19, ti_20, ti_29, ti_30, ti_31, ti_32, ti_35, ti_36, ti_38, ti_39, ti_40, ti_41, ti_42, ti_43, ti_44, ti_45, ti_46, ti_47, ti_48, ti_49, ti_50, ti_51, ti_52, ti_53, ti_54, ti_55, ti_56, ti_57, ti_58, ti_59, ti_60, ti_61, ti_62, ti_63, ti_64, ti_65, ti_74, ti_77, ti_126, ti_200, ti_201, ti_202, ti_203, ti_204, ti_205, ti_210, ti_255, ti_256, ti_400, ti_512, ti_600, ti_601, ti_602, ti_1000, ti_1023, ti_1024, ti_2000, ti_10000, ti_12602, ti_999999, ti_m999999, ti_m1, ti_2000000, ti_3000000, xN_1, xN_4, xN_5, xN_60, xN_61, xN_64, xN_200, xN_800, xN_12000, xN_12602, eq_self, and_self, and_true, true_and, if_true, if_false, decide_true, Nat.reduceLeDiff, xc2_int, xc2_ref, xc2_ra, xc2_null, xc2_long, xc2_none, xisaT_ref, xisaT_ra, xisaT_null, xc1T_int, xc1T_ref, xc1T_ra, xc1T_null, xsum_nil, xsum_int, xsum_ref, xsum_ra, xsum_long, xsum_double, xsum_null, xfl_nil, xfl_int, xfl_ref, xfl_ra, xfl_null, xfl_long, xfl_double, List.length_cons, List.length_nil, xfk, xfv, xak, xan, xcls, xsv', List.getElem?_cons_zero, List.getElem?_cons_succ, List.getD_cons_zero, List.getD_cons_succ, Option.getD_some, Option.isSome_some, if_true, if_pos, xcont, Option.toList_none, Option.toList_some, List.nil_append, List.cons_append]
  exact k3 Q
end
