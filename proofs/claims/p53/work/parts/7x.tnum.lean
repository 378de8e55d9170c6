/-! Texts: numbers; the builder is emptied; its characters -/
section
variable {X : xX} {S S' S1 S2 : xLm} {g g' g1 g2 G : xGm} {d b m : Nat} {w : xH} {Q : xO → xH → Prop} {L : List Int} {cap cap' cap2 : Nat}
theorem xdiv_neg {v : Int} (h : 0 ≤ v) (h2 : v < 2147483648) : xdiv (-v) 100 = -(v / 100) := by
  unfold xdiv
  rw [Int32.toInt_div, show (iI (-v)).toInt = ti (-v) from rfl, show (iI 100).toInt = ti 100 from rfl, ti_eq (z := -v) (by omega) (by omega), ti_eq (z := 100) (by decide) (by decide), Int.neg_tdiv, Int.tdiv_eq_ediv_of_nonneg h]
  have h1 : 0 ≤ v / 100 := Int.ediv_nonneg h (by decide)
  have h3 : v / 100 ≤ v := Int.ediv_le_self _ h
  rw [Int.bmod_eq_of_le (by omega) (by omega)]
theorem bcS_1 {u : Int} (h : 0 ≤ u ∧ u < 100) : bcS 1 u = 48 + u % 10 := by
  have e : ∀ n : Fin 100, bcS 1 (n.val : Int) = 48 + (n.val : Int) % 10 := by decide +kernel
  have := e ⟨u.toNat, by omega⟩
  have e2 : ((u.toNat : Nat) : Int) = u := by omega
  rw [e2] at this
  exact this
theorem bcS_2 {u : Int} (h : 0 ≤ u ∧ u < 100) : bcS 2 u = 48 + u / 10 := by
  have e : ∀ n : Fin 100, bcS 2 (n.val : Int) = 48 + (n.val : Int) / 10 := by decide +kernel
  have := e ⟨u.toNat, by omega⟩
  have e2 : ((u.toNat : Nat) : Int) = u := by omega
  rw [e2] at this
  exact this
theorem xl_12 : ((xbl 1 : Nat) : Int) = 100 ∧ ((xbl 2 : Nat) : Int) = 100 ∧ xob 1 = true ∧ xob 2 = true := by decide
theorem l_gc0 {a N : Nat} {x v e : Int} {y3 y4 : Option Value} (ha : S.1 a = .inl (3, N)) (hN : N ≤ 20000) (h0 : 0 ≤ v) (h99 : v ≤ 99) (he : 2 ≤ e ∨ (1 ≤ e ∧ v ≤ 9)) (heN : e ≤ N) : ∃ z, ∀ Q, Wx X d 415 22 [some (.int (iI (-v))), some (.int (iI x)), some (.ref a), y3, y4, some (.int (iI e)), some (.int (iI 0))] [] (hp S G) Q = Q (.inl (some (.int (iI z)))) (hp S (wr G a e (if v ≤ 9 then [48 + v] else [48 + v % 10, 48 + v / 10]))) := by
  obtain ⟨x1, x2, x3, x4⟩ := xl_12
  have tv : ti (-v) = -v := ti_eq (by omega) (by omega)
  have t100 : ti (-100) = -100 := by decide
  have t9 : ti (-9) = -9 := by decide
  have n1 : -100 < -v := by omega
  have tn : ti (- -v) = v := by rw [ti_eq (by omega) (by omega)]; omega
  have v100 : v < 100 := by omega
  have b1 := bcS_1 ⟨h0, v100⟩
  have b2 := bcS_2 ⟨h0, v100⟩
  have te : ti (e + -1) = e + -1 := ti_eq (by omega) (by omega)
  have e0 : 0 ≤ e + -1 := by omega
  have eN : e + -1 < N := by omega
  by_cases h9 : v ≤ 9
  · have n9 : -9 ≤ -v := by omega
    have b1' : bcS 1 v = 48 + v := by rw [b1]; omega
    have xb := xnb_id (x := 48 + v) (by omega)
    rw [if_pos h9]
    refine ⟨e + -1, fun Q => ?_⟩
    simp (config := { decide := true }) only [w_iload_n0 (pc' := 23) q415 d415_22 rfl, w_bipush (z' := (-100)) (pc' := 25) q415 d415_23 rfl (by decide), w_icmp_gt (tg := 72) (pc' := 28) q415 d415_25 (by decide) rfl, w_aload_n2 (pc' := 73) q415 d415_72 rfl, w_iinc5 (z := (-1)) (pc' := 76) q415 d415_73 rfl, w_iload5 (pc' := 78) q415 d415_76 rfl, w_gst1 (pc' := 81) q415 d415_78 rfl (by decide +kernel), w_iload_n0 (pc' := 82) q415 d415_81 rfl, w_ineg (pc' := 83) q415 d415_82 rfl, w_zaload (pc' := 84) q415 d415_83 rfl, w_baload (pc' := 84) q415 d415_83 rfl, w_baloadS (pc' := 84) q415 d415_83 rfl, w_zastore (pc' := 85) q415 d415_84 rfl, w_bastore (pc' := 85) q415 d415_84 rfl, w_iload_n0 (pc' := 86) q415 d415_85 rfl, w_bipush (z' := (-9)) (pc' := 88) q415 d415_86 rfl (by decide), w_icmp_ge (tg := 104) (pc' := 91) q415 d415_88 (by decide) rfl, w_iload6 (pc' := 106) q415 d415_104 rfl, w_if_eq (tg := 118) (pc' := 109) q415 d415_106 (by decide) rfl, w_iload5 (pc' := 120) q415 d415_118 rfl, w_ireturn q415 d415_120 m415.2.1, gs_off, gs_off0, gs_0off, gs_2, xN_0, xN_2, xN_3, xN_6, xN_7, xN_8, xN_9, xN_10, xN_11, xN_12, xN_13, xN_14, xN_15, xN_16, xN_17, xN_18, xN_19, xN_20, xN_21, xN_22, xN_23, xN_24, xN_25, xN_26, xN_27, xN_28, xN_29, xN_30, xN_31, xN_32, xN_33, xN_34, xN_35, xN_36, xN_37, xN_38, xN_39, xN_40, xN_41, xN_42, xN_43, xN_44, xN_45, xN_46, xN_47, xN_48, xN_49, xN_50, xN_51, xN_52, xN_53, xN_54, xN_55, ti_0, ti_1, ti_2, ti_3, ti_4, ti_5, ti_6, ti_7, ti_8, ti_9, ti_10, ti_16, ti_19, ti_20, ti_29, ti_30, ti_31, ti_32, ti_35, ti_36, ti_38, ti_39, ti_40, ti_41, ti_42, ti_43, ti_44, ti_45, ti_46, ti_47, ti_48, ti_49, ti_50, ti_51, ti_52, ti_53, ti_54, ti_55, ti_56, ti_57, ti_58, ti_59, ti_60, ti_61, ti_62, ti_63, ti_64, ti_65, ti_74, ti_77, ti_126, ti_200, ti_201, ti_202, ti_203, ti_204, ti_205, ti_210, ti_255, ti_256, ti_400, ti_512, ti_600, ti_601, ti_602, ti_1000, ti_1023, ti_1024, ti_2000, ti_10000, ti_12602, ti_999999, ti_m999999, ti_m1, ti_2000000, ti_3000000, xN_1, xN_4, xN_5, xN_60, xN_61, xN_64, xN_200, xN_800, xN_12000, xN_12602, eq_self, and_self, and_true, true_and, if_true, if_false, decide_true, Nat.reduceLeDiff, xc2_int, xc2_ref, xc2_ra, xc2_null, xc2_long, xc2_none, xisaT_ref, xisaT_ra, xisaT_null, xc1T_int, xc1T_ref, xc1T_ra, xc1T_null, xsum_nil, xsum_int, xsum_ref, xsum_ra, xsum_long, xsum_double, xsum_null, xfl_nil, xfl_int, xfl_ref, xfl_ra, xfl_null, xfl_long, xfl_double, List.length_cons, List.length_nil, ha, x1, x3, tv, t100, t9, n1, tn, h0, v100, b1', xb, te, e0, eN, n9, xfk, xfv, xak, xan, xcls, xsv', List.getElem?_cons_zero, List.getElem?_cons_succ, List.getD_cons_zero, List.getD_cons_succ, Option.getD_some, Option.isSome_some, if_true, if_pos, xcont, Option.toList_none, Option.toList_some, List.nil_append, List.cons_append]
    rfl
  · have n9 : ¬ -9 ≤ -v := by omega
    have xb := xnb_id (x := 48 + v % 10) (by omega)
    have xb2 := xnb_id (x := 48 + v / 10) (by omega)
    have te2 : ti (e + -1 + -1) = e + -1 + -1 := ti_eq (by omega) (by omega)
    have e02 : 0 ≤ e + -1 + -1 := by omega
    have eN2 : e + -1 + -1 < N := by omega
    rw [if_neg h9]
    refine ⟨e + -1 + -1, fun Q => ?_⟩
    simp (config := { decide := true }) only [w_iload_n0 (pc' := 23) q415 d415_22 rfl, w_bipush (z' := (-100)) (pc' := 25) q415 d415_23 rfl (by decide), w_icmp_gt (tg := 72) (pc' := 28) q415 d415_25 (by decide) rfl, w_aload_n2 (pc' := 73) q415 d415_72 rfl, w_iinc5 (z := (-1)) (pc' := 76) q415 d415_73 rfl, w_iload5 (pc' := 78) q415 d415_76 rfl, w_gst1 (pc' := 81) q415 d415_78 rfl (by decide +kernel), w_iload_n0 (pc' := 82) q415 d415_81 rfl, w_ineg (pc' := 83) q415 d415_82 rfl, w_zaload (pc' := 84) q415 d415_83 rfl, w_baload (pc' := 84) q415 d415_83 rfl, w_baloadS (pc' := 84) q415 d415_83 rfl, w_zastore (pc' := 85) q415 d415_84 rfl, w_bastore (pc' := 85) q415 d415_84 rfl, w_iload_n0 (pc' := 86) q415 d415_85 rfl, w_bipush (z' := (-9)) (pc' := 88) q415 d415_86 rfl (by decide), w_icmp_ge (tg := 104) (pc' := 91) q415 d415_88 (by decide) rfl, w_aload_n2 (pc' := 92) q415 d415_91 rfl, w_iinc5 (z := (-1)) (pc' := 95) q415 d415_92 rfl, w_iload5 (pc' := 97) q415 d415_95 rfl, w_gst2 (pc' := 100) q415 d415_97 rfl (by decide +kernel), w_iload_n0 (pc' := 101) q415 d415_100 rfl, w_ineg (pc' := 102) q415 d415_101 rfl, w_zaload (pc' := 103) q415 d415_102 rfl, w_baload (pc' := 103) q415 d415_102 rfl, w_baloadS (pc' := 103) q415 d415_102 rfl, w_zastore (pc' := 104) q415 d415_103 rfl, w_bastore (pc' := 104) q415 d415_103 rfl, w_iload6 (pc' := 106) q415 d415_104 rfl, w_if_eq (tg := 118) (pc' := 109) q415 d415_106 (by decide) rfl, w_iload5 (pc' := 120) q415 d415_118 rfl, w_ireturn q415 d415_120 m415.2.1, gs_off, gs_off0, gs_0off, gs_2, xN_0, xN_2, xN_3, xN_6, xN_7, xN_8, xN_9, xN_10, xN_11, xN_12, xN_13, xN_14, xN_15, xN_16, xN_17, xN_18, xN_19, xN_20, xN_21, xN_22, xN_23, xN_24, xN_25, xN_26, xN_27, xN_28, xN_29, xN_30, xN_31, xN_32, xN_33, xN_34, xN_35, xN_36, xN_37, xN_38, xN_39, xN_40, xN_41, xN_42, xN_43, xN_44, xN_45, xN_46, xN_47, xN_48, xN_49, xN_50, xN_51, xN_52, xN_53, xN_54, xN_55, ti_0, ti_1, ti_2, ti_3, ti_4, ti_5, ti_6, ti_7, ti_8, ti_9, ti_10, ti_16, ti_19, ti_20, ti_29, ti_30, ti_31, ti_32, ti_35, ti_36, ti_38, ti_39, ti_40, ti_41, ti_42, ti_43, ti_44, ti_45, ti_46, ti_47, ti_48, ti_49, ti_50, ti_51, ti_52, ti_53, ti_54, ti_55, ti_56, ti_57, ti_58, ti_59, ti_60, ti_61, ti_62, ti_63, ti_64, ti_65, ti_74, ti_77, ti_126, ti_200, ti_201, ti_202, ti_203, ti_204, ti_205, ti_210, ti_255, ti_256, ti_400, ti_512, ti_600, ti_601, ti_602, ti_1000, ti_1023, ti_1024, ti_2000, ti_10000, ti_12602, ti_999999, ti_m999999, ti_m1, ti_2000000, ti_3000000, xN_1, xN_4, xN_5, xN_60, xN_61, xN_64, xN_200, xN_800, xN_12000, xN_12602, eq_self, and_self, and_true, true_and, if_true, if_false, decide_true, Nat.reduceLeDiff, xc2_int, xc2_ref, xc2_ra, xc2_null, xc2_long, xc2_none, xisaT_ref, xisaT_ra, xisaT_null, xc1T_int, xc1T_ref, xc1T_ra, xc1T_null, xsum_nil, xsum_int, xsum_ref, xsum_ra, xsum_long, xsum_double, xsum_null, xfl_nil, xfl_int, xfl_ref, xfl_ra, xfl_null, xfl_long, xfl_double, List.length_cons, List.length_nil, ha, x1, x2, x3, x4, tv, t100, t9, n1, tn, h0, v100, b1, b2, xb, xb2, te, e0, eN, te2, e02, eN2, n9, xfk, xfv, xak, xan, xcls, xsv', List.getElem?_cons_zero, List.getElem?_cons_succ, List.getD_cons_zero, List.getD_cons_succ, Option.getD_some, Option.isSome_some, if_true, if_pos, xcont, Option.toList_none, Option.toList_some, List.nil_append, List.cons_append]
    rfl
theorem l_gc {a N : Nat} {x : Int} (ha : S.1 a = .inl (3, N)) (hN : N ≤ 20000) : ∀ (f : Nat) (v e : Int) (G : xGm) (y3 y4 : Option Value), 0 ≤ v → v < hunF f → v ≤ 999999 → ((digF f v).length : Int) ≤ e → e ≤ N → ∃ z, ∀ Q, Wx X d 415 22 [some (.int (iI (-v))), some (.int (iI x)), some (.ref a), y3, y4, some (.int (iI e)), some (.int (iI 0))] [] (hp S G) Q = Q (.inl (some (.int (iI z)))) (hp S (wr G a e (digF f v)))
  | 0, v, e, G, y3, y4, h0, h1, _, h2, h3 => by
    rw [digF] at h2 ⊢
    refine l_gc0 ha hN h0 (by unfold hunF at h1; omega) ?_ h3
    split at h2
    · next h => exact .inr ⟨by simpa using h2, h⟩
    · exact .inl (by simpa using h2)
  | f + 1, v, e, G, y3, y4, h0, h1, hv, h2, h3 => by
    rw [digF] at h2 ⊢
    by_cases h99 : v ≤ 99
    · rw [if_pos h99] at h2 ⊢
      refine l_gc0 ha hN h0 h99 ?_ h3
      split at h2
      · next h => exact .inr ⟨by simpa using h2, h⟩
      · exact .inl (by simpa using h2)
    · rw [if_neg h99] at h2 ⊢
      rw [List.length_cons, List.length_cons] at h2
      have hdl := digF_len f (v / 100)
      obtain ⟨x1, x2, x3, x4⟩ := xl_12
      have tv : ti (-v) = -v := ti_eq (by omega) (by omega)
      have t100 : ti (-100) = -100 := by decide
      have n1 : ¬ -100 < -v := by omega
      have n100 : ¬ (100 : Int) = 0 := by decide
      have t100p : ti 100 = 100 := by decide
      have dv := xdiv_neg (v := v) h0 (by omega)
      have rv : ti (-(v / 100) * 100 - -v) = v % 100 := by rw [ti_eq (by omega) (by omega)]; omega
      have r0 : 0 ≤ v % 100 := by omega
      have r1 : v % 100 < 100 := by omega
      have b1 : bcS 1 (v % 100) = 48 + v % 10 := by rw [bcS_1 ⟨r0, r1⟩]; omega
      have b2 : bcS 2 (v % 100) = 48 + v / 10 % 10 := by rw [bcS_2 ⟨r0, r1⟩]; omega
      have xb := xnb_id (x := 48 + v % 10) (by omega)
      have xb2 := xnb_id (x := 48 + v / 10 % 10) (by omega)
      have te : ti (e + -1) = e + -1 := ti_eq (by omega) (by omega)
      have e0 : 0 ≤ e + -1 := by omega
      have eN : e + -1 < N := by omega
      have te2 : ti (e + -1 + -1) = e + -1 + -1 := ti_eq (by omega) (by omega)
      have e02 : 0 ≤ e + -1 + -1 := by omega
      have eN2 : e + -1 + -1 < N := by omega
      obtain ⟨z, hz⟩ := l_gc (x := x) ha hN f (v / 100) (e + -1 + -1) (gs (gs G a (e + -1) (48 + v % 10)) a (e + -1 + -1) (48 + v / 10 % 10)) (some (.int (iI (-(v / 100))))) (some (.int (iI (-(v / 100) * 100 - -v)))) (by omega) (by unfold hunF at h1; omega) (by omega) (by omega) (by omega)
      refine ⟨z, fun Q => ?_⟩
      show _ = Q _ (hp S (wr (gs (gs G a (e + -1) (48 + v % 10)) a (e + -1 + -1) (48 + v / 10 % 10)) a (e + -1 + -1) (digF f (v / 100))))
      rw [← hz Q, w_iload_n0 (pc' := 23) q415 d415_22 rfl]
      simp (config := { decide := true }) only [w_bipush (z' := (-100)) (pc' := 25) q415 d415_23 rfl (by decide), w_icmp_gt (tg := 72) (pc' := 28) q415 d415_25 (by decide) rfl, w_iload_n0 (pc' := 29) q415 d415_28 rfl, w_bipush (z' := (100)) (pc' := 31) q415 d415_29 rfl (by decide), w_idiv (pc' := 32) q415 d415_31 rfl, w_istore_n3 (pc' := 33) q415 d415_32 rfl, w_iload_n3 (pc' := 34) q415 d415_33 rfl, w_bipush (z' := (100)) (pc' := 36) q415 d415_34 rfl (by decide), w_imul (pc' := 37) q415 d415_36 rfl, w_iload_n0 (pc' := 38) q415 d415_37 rfl, w_isub (pc' := 39) q415 d415_38 rfl, w_istore4 (pc' := 41) q415 d415_39 rfl, w_iload_n3 (pc' := 42) q415 d415_41 rfl, w_istore_n0 (pc' := 43) q415 d415_42 rfl, w_aload_n2 (pc' := 44) q415 d415_43 rfl, w_iinc5 (z := (-1)) (pc' := 47) q415 d415_44 rfl, w_iload5 (pc' := 49) q415 d415_47 rfl, w_gst1 (pc' := 52) q415 d415_49 rfl (by decide +kernel), w_iload4 (pc' := 54) q415 d415_52 rfl, w_zaload (pc' := 55) q415 d415_54 rfl, w_baload (pc' := 55) q415 d415_54 rfl, w_baloadS (pc' := 55) q415 d415_54 rfl, w_zastore (pc' := 56) q415 d415_55 rfl, w_bastore (pc' := 56) q415 d415_55 rfl, w_aload_n2 (pc' := 57) q415 d415_56 rfl, w_iinc5 (z := (-1)) (pc' := 60) q415 d415_57 rfl, w_iload5 (pc' := 62) q415 d415_60 rfl, w_gst2 (pc' := 65) q415 d415_62 rfl (by decide +kernel), w_iload4 (pc' := 67) q415 d415_65 rfl, w_zaload (pc' := 68) q415 d415_67 rfl, w_baload (pc' := 68) q415 d415_67 rfl, w_baloadS (pc' := 68) q415 d415_67 rfl, w_zastore (pc' := 69) q415 d415_68 rfl, w_bastore (pc' := 69) q415 d415_68 rfl, w_goto (tg := 22) q415 d415_69 (by decide), gs_off, gs_off0, gs_0off, gs_2, xN_0, xN_2, xN_3, xN_6, xN_7, xN_8, xN_9, xN_10, xN_11, xN_12, xN_13, xN_14, xN_15, xN_16, xN_17, xN_18, xN_19, xN_20, xN_21, xN_22, xN_23, xN_24, xN_25, xN_26, xN_27, xN_28, xN_29, xN_30, xN_31, xN_32, xN_33, xN_34, xN_35, xN_36, xN_37, xN_38, xN_39, xN_40, xN_41, xN_42, xN_43, xN_44, xN_45, xN_46, xN_47, xN_48, xN_49, xN_50, xN_51, xN_52, xN_53, xN_54, xN_55, ti_0, ti_1, ti_2, ti_3, ti_4, ti_5, ti_6, ti_7, ti_8, ti_9, ti_10, ti_16, ti_19, ti_20, ti_29, ti_30, ti_31, ti_32, ti_35, ti_36, ti_38, ti_39, ti_40, ti_41, ti_42, ti_43, ti_44, ti_45, ti_46, ti_47, ti_48, ti_49, ti_50, ti_51, ti_52, ti_53, ti_54, ti_55, ti_56, ti_57, ti_58, ti_59, ti_60, ti_61, ti_62, ti_63, ti_64, ti_65, ti_74, ti_77, ti_126, ti_200, ti_201, ti_202, ti_203, ti_204, ti_205, ti_210, ti_255, ti_256, ti_400, ti_512, ti_600, ti_601, ti_602, ti_1000, ti_1023, ti_1024, ti_2000, ti_10000, ti_12602, ti_999999, ti_m999999, ti_m1, ti_2000000, ti_3000000, xN_1, xN_4, xN_5, xN_60, xN_61, xN_64, xN_200, xN_800, xN_12000, xN_12602, eq_self, and_self, and_true, true_and, if_true, if_false, decide_true, Nat.reduceLeDiff, xc2_int, xc2_ref, xc2_ra, xc2_null, xc2_long, xc2_none, xisaT_ref, xisaT_ra, xisaT_null, xc1T_int, xc1T_ref, xc1T_ra, xc1T_null, xsum_nil, xsum_int, xsum_ref, xsum_ra, xsum_long, xsum_double, xsum_null, xfl_nil, xfl_int, xfl_ref, xfl_ra, xfl_null, xfl_long, xfl_double, List.length_cons, List.length_nil, ha, x1, x2, x3, x4, tv, t100, t100p, n1, n100, dv, rv, r0, r1, b1, b2, xb, xb2, te, e0, eN, te2, e02, eN2, xfk, xfv, xak, xan, xcls, xsv', List.getElem?_cons_zero, List.getElem?_cons_succ, List.getD_cons_zero, List.getD_cons_succ, Option.getD_some, Option.isSome_some, if_true, if_pos, xcont, Option.toList_none, Option.toList_some, List.nil_append, List.cons_append]
theorem wr_out {a : Nat} {i : Int} : ∀ (ds : List Int) (e : Int) (g : xGm), (i < e - ds.length ∨ e ≤ i) → wr g a e ds a i = g a i
  | [], _, _, _ => rfl
  | x :: ds, e, g, h => by
    rw [List.length_cons] at h
    unfold wr
    rw [wr_out ds (e + -1) _ (by omega), gs_at, if_neg (by omega)]
theorem wr_TL {a : Nat} : ∀ (ds : List Int) (e : Int) (g : xGm), TL (wr g a e ds a) (e - ds.length) ds.reverse
  | [], _, _ => trivial
  | x :: ds, e, g => by
    rw [List.reverse_cons]
    unfold wr
    refine (TL_app _ _ _ _).mpr ⟨?_, ?_, trivial⟩
    · have h := wr_TL (a := a) ds (e + -1) (gs g a (e + -1) x)
      rw [List.length_cons, show e - ((ds.length + 1 : Nat) : Int) = e + -1 - ds.length by omega]
      exact h
    · rw [wr_out ds (e + -1) _ (by rw [List.length_reverse, List.length_cons]; omega), gs_at, if_pos (by rw [List.length_reverse, List.length_cons]; omega)]
theorem wr_rg {a : Nat} : ∀ (ds : List Int) (e : Int) (g : xGm), (∀ x ∈ ds, -128 ≤ x ∧ x ≤ 127) → rg g a (-128) 127 → rg (wr g a e ds) a (-128) 127
  | [], _, _, _, h => h
  | x :: ds, e, g, hd, h => by
    unfold wr
    refine wr_rg ds (e + -1) _ (fun y hy => hd y (List.mem_cons_of_mem _ hy)) (rg_gs h (fun _ => hd x List.mem_cons_self))
theorem digF_rng : ∀ (f : Nat) (v : Int), 0 ≤ v → v < hunF f → ∀ x ∈ digF f v, 48 ≤ x ∧ x ≤ 57
  | 0, v, h0, h1 => by
    have h1' : v < 100 := h1
    rw [digF]
    intro x hx
    split at hx
    · simp at hx; omega
    · simp at hx; omega
  | f + 1, v, h0, h1 => by
    rw [digF]
    intro x hx
    split at hx
    · split at hx
      · simp at hx; omega
      · simp at hx; omega
    · rw [List.mem_cons, List.mem_cons] at hx
      rcases hx with e | e | e
      · omega
      · omega
      · exact digF_rng f (v / 100) (by omega) (by unfold hunF at h1; omega) x e
theorem dec_eq {v : Int} (h : 0 ≤ v ∧ v ≤ 999999) : dec v = (digF 2 v).reverse := dec_dig 2 v h.1 (by have := h.2; show v < 1000000; omega)

theorem dig_len {v : Int} (h : 0 ≤ v ∧ v ≤ 999999) : ((dec v).length : Int) = if v ≤ 9 then 1 else if v ≤ 99 then 2 else if v ≤ 999 then 3 else if v ≤ 9999 then 4 else if v ≤ 99999 then 5 else 6 := by
  obtain ⟨h0, h1⟩ := h
  rw [dec_eq ⟨h0, h1⟩, List.length_reverse]
  by_cases a1 : v ≤ 9
  · rw [if_pos a1, digF, if_pos (by omega), if_pos a1]; rfl
  · rw [if_neg a1]
    by_cases a2 : v ≤ 99
    · rw [if_pos a2, digF, if_pos a2, if_neg a1]; rfl
    · rw [if_neg a2, digF, if_neg a2]
      by_cases a3 : v ≤ 999
      · rw [if_pos a3, digF, if_pos (by omega), if_pos (by omega)]; rfl
      · rw [if_neg a3]
        by_cases a4 : v ≤ 9999
        · rw [if_pos a4, digF, if_pos (by omega), if_neg (by omega)]; rfl
        · rw [if_neg a4, digF, if_neg (by omega)]
          by_cases a5 : v ≤ 99999
          · rw [if_pos a5, digF, if_pos (by omega)]; rfl
          · rw [if_neg a5, digF, if_neg (by omega)]; rfl
theorem s_step {v p i : Int} (hi : 1 ≤ i ∧ i < 10) (tp : ti p = p) (tn : ti (-v) = -v) : (¬ -v ≤ p → ∀ Q, Wx X d 414 16 [some (.int (iI (-v))), some (.int (iI 0)), some (.int (iI p)), some (.int (iI i))] [] w Q = Q (.inl (some (.int (iI (i + 0))))) w) ∧ (-v ≤ p → ∀ Q, Wx X d 414 16 [some (.int (iI (-v))), some (.int (iI 0)), some (.int (iI p)), some (.int (iI i))] [] w Q = Wx X d 414 16 [some (.int (iI (-v))), some (.int (iI 0)), some (.int (iI (10 * p))), some (.int (iI (i + 1)))] [] w Q) := by
  have t_i : ti i = i := ti_eq (by omega) (by omega)
  have n10 : ¬ 10 ≤ i := by omega
  refine ⟨fun h Q => ?_, fun h Q => ?_⟩
  · rw [w_iload_n3 (pc' := 17) q414 d414_16 rfl]
    simp (config := { decide := true }) only [w_bipush (z' := (10)) (pc' := 19) q414 d414_17 rfl (by decide), w_icmp_ge (tg := 42) (pc' := 22) q414 d414_19 (by decide) rfl, w_iload_n0 (pc' := 23) q414 d414_22 rfl, w_iload_n2 (pc' := 24) q414 d414_23 rfl, w_icmp_le (tg := 31) (pc' := 27) q414 d414_24 (by decide) rfl, w_iload_n3 (pc' := 28) q414 d414_27 rfl, w_iload_n1 (pc' := 29) q414 d414_28 rfl, w_iadd (pc' := 30) q414 d414_29 rfl, w_ireturn q414 d414_30 m414.2.1, gs_off, gs_off0, gs_0off, gs_2, xN_0, xN_2, xN_3, xN_6, xN_7, xN_8, xN_9, xN_10, xN_11, xN_12, xN_13, xN_14, xN_15, xN_16, xN_17, xN_18, xN_19, xN_20, xN_21, xN_22, xN_23, xN_24, xN_25, xN_26, xN_27, xN_28, xN_29, xN_30, xN_31, xN_32, xN_33, xN_34, xN_35, xN_36, xN_37, xN_38, xN_39, xN_40, xN_41, xN_42, xN_43, xN_44, xN_45, xN_46, xN_47, xN_48, xN_49, xN_50, xN_51, xN_52, xN_53, xN_54, xN_55, ti_0, ti_1, ti_2, ti_3, ti_4, ti_5, ti_6, ti_7, ti_8, ti_9, ti_10, ti_16, ti_19, ti_20, ti_29, ti_30, ti_31, ti_32, ti_35, ti_36, ti_38, ti_39, ti_40, ti_41, ti_42, ti_43, ti_44, ti_45, ti_46, ti_47, ti_48, ti_49, ti_50, ti_51, ti_52, ti_53, ti_54, ti_55, ti_56, ti_57, ti_58, ti_59, ti_60, ti_61, ti_62, ti_63, ti_64, ti_65, ti_74, ti_77, ti_126, ti_200, ti_201, ti_202, ti_203, ti_204, ti_205, ti_210, ti_255, ti_256, ti_400, ti_512, ti_600, ti_601, ti_602, ti_1000, ti_1023, ti_1024, ti_2000, ti_10000, ti_12602, ti_999999, ti_m999999, ti_m1, ti_2000000, ti_3000000, xN_1, xN_4, xN_5, xN_60, xN_61, xN_64, xN_200, xN_800, xN_12000, xN_12602, eq_self, and_self, and_true, true_and, if_true, if_false, decide_true, Nat.reduceLeDiff, xc2_int, xc2_ref, xc2_ra, xc2_null, xc2_long, xc2_none, xisaT_ref, xisaT_ra, xisaT_null, xc1T_int, xc1T_ref, xc1T_ra, xc1T_null, xsum_nil, xsum_int, xsum_ref, xsum_ra, xsum_long, xsum_double, xsum_null, xfl_nil, xfl_int, xfl_ref, xfl_ra, xfl_null, xfl_long, xfl_double, List.length_cons, List.length_nil, t_i, n10, tp, tn, h, xfk, xfv, xak, xan, xcls, xsv', List.getElem?_cons_zero, List.getElem?_cons_succ, List.getD_cons_zero, List.getD_cons_succ, Option.getD_some, Option.isSome_some, if_true, if_pos, xcont, Option.toList_none, Option.toList_some, List.nil_append, List.cons_append]
  · rw [w_iload_n3 (pc' := 17) q414 d414_16 rfl]
    simp (config := { decide := true }) only [w_bipush (z' := (10)) (pc' := 19) q414 d414_17 rfl (by decide), w_icmp_ge (tg := 42) (pc' := 22) q414 d414_19 (by decide) rfl, w_iload_n0 (pc' := 23) q414 d414_22 rfl, w_iload_n2 (pc' := 24) q414 d414_23 rfl, w_icmp_le (tg := 31) (pc' := 27) q414 d414_24 (by decide) rfl, w_iload_n3 (pc' := 28) q414 d414_27 rfl, w_iload_n1 (pc' := 29) q414 d414_28 rfl, w_iadd (pc' := 30) q414 d414_29 rfl, w_ireturn q414 d414_30 m414.2.1, w_bipush (z' := (10)) (pc' := 33) q414 d414_31 rfl (by decide), w_iload_n2 (pc' := 34) q414 d414_33 rfl, w_imul (pc' := 35) q414 d414_34 rfl, w_istore_n2 (pc' := 36) q414 d414_35 rfl, w_iinc3 (z := (1)) (pc' := 39) q414 d414_36 rfl, w_goto (tg := 16) q414 d414_39 (by decide), gs_off, gs_off0, gs_0off, gs_2, xN_0, xN_2, xN_3, xN_6, xN_7, xN_8, xN_9, xN_10, xN_11, xN_12, xN_13, xN_14, xN_15, xN_16, xN_17, xN_18, xN_19, xN_20, xN_21, xN_22, xN_23, xN_24, xN_25, xN_26, xN_27, xN_28, xN_29, xN_30, xN_31, xN_32, xN_33, xN_34, xN_35, xN_36, xN_37, xN_38, xN_39, xN_40, xN_41, xN_42, xN_43, xN_44, xN_45, xN_46, xN_47, xN_48, xN_49, xN_50, xN_51, xN_52, xN_53, xN_54, xN_55, ti_0, ti_1, ti_2, ti_3, ti_4, ti_5, ti_6, ti_7, ti_8, ti_9, ti_10, ti_16, ti_19, ti_20, ti_29, ti_30, ti_31, ti_32, ti_35, ti_36, ti_38, ti_39, ti_40, ti_41, ti_42, ti_43, ti_44, ti_45, ti_46, ti_47, ti_48, ti_49, ti_50, ti_51, ti_52, ti_53, ti_54, ti_55, ti_56, ti_57, ti_58, ti_59, ti_60, ti_61, ti_62, ti_63, ti_64, ti_65, ti_74, ti_77, ti_126, ti_200, ti_201, ti_202, ti_203, ti_204, ti_205, ti_210, ti_255, ti_256, ti_400, ti_512, ti_600, ti_601, ti_602, ti_1000, ti_1023, ti_1024, ti_2000, ti_10000, ti_12602, ti_999999, ti_m999999, ti_m1, ti_2000000, ti_3000000, xN_1, xN_4, xN_5, xN_60, xN_61, xN_64, xN_200, xN_800, xN_12000, xN_12602, eq_self, and_self, and_true, true_and, if_true, if_false, decide_true, Nat.reduceLeDiff, xc2_int, xc2_ref, xc2_ra, xc2_null, xc2_long, xc2_none, xisaT_ref, xisaT_ra, xisaT_null, xc1T_int, xc1T_ref, xc1T_ra, xc1T_null, xsum_nil, xsum_int, xsum_ref, xsum_ra, xsum_long, xsum_double, xsum_null, xfl_nil, xfl_int, xfl_ref, xfl_ra, xfl_null, xfl_long, xfl_double, List.length_cons, List.length_nil, t_i, n10, tp, tn, h, xfk, xfv, xak, xan, xcls, xsv', List.getElem?_cons_zero, List.getElem?_cons_succ, List.getD_cons_zero, List.getD_cons_succ, Option.getD_some, Option.isSome_some, if_true, if_pos, xcont, Option.toList_none, Option.toList_some, List.nil_append, List.cons_append]
theorem c_size {v : Int} (h : 0 ≤ v ∧ v ≤ 999999) : ∀ Q, Cw X d 414 [.int (iI v)] w Q = Q (.inl (some (.int (iI (dec v).length)))) w := fun Q => by
  rw [dig_len h]
  obtain ⟨h0, h1⟩ := h
  have tv : ti v = v := ti_eq (by omega) (by omega)
  have tn : ti (-v) = -v := ti_eq (by omega) (by omega)
  have v0 : ¬ v < 0 := by omega
  have v0' : ¬ v < 0 := by omega
  have s1 := s_step (X := X) (d := d) (w := w) (v := v) (p := -10) (i := 1) (by decide) (by decide) tn
  have s2 := s_step (X := X) (d := d) (w := w) (v := v) (p := -100) (i := 2) (by decide) (by decide) tn
  have s3 := s_step (X := X) (d := d) (w := w) (v := v) (p := -1000) (i := 3) (by decide) (by decide) tn
  have s4 := s_step (X := X) (d := d) (w := w) (v := v) (p := -10000) (i := 4) (by decide) (by decide) tn
  have s5 := s_step (X := X) (d := d) (w := w) (v := v) (p := -100000) (i := 5) (by decide) (by decide) tn
  have s6 := s_step (X := X) (d := d) (w := w) (v := v) (p := -1000000) (i := 6) (by decide) (by decide) tn
  rw [e414]
  simp (config := { decide := true }) only [w_iconst (pc' := 1) q414 d414_0 rfl, w_istore_n1 (pc' := 2) q414 d414_1 rfl, w_iload_n0 (pc' := 3) q414 d414_2 rfl, w_if_lt (tg := 11) (pc' := 6) q414 d414_3 (by decide) rfl, w_iconst (pc' := 7) q414 d414_6 rfl, w_istore_n1 (pc' := 8) q414 d414_7 rfl, w_iload_n0 (pc' := 9) q414 d414_8 rfl, w_ineg (pc' := 10) q414 d414_9 rfl, w_istore_n0 (pc' := 11) q414 d414_10 rfl, w_bipush (z' := (-10)) (pc' := 13) q414 d414_11 rfl (by decide), w_istore_n2 (pc' := 14) q414 d414_13 rfl, w_iconst (pc' := 15) q414 d414_14 rfl, w_istore_n3 (pc' := 16) q414 d414_15 rfl, gs_off, gs_off0, gs_0off, gs_2, xN_0, xN_2, xN_3, xN_6, xN_7, xN_8, xN_9, xN_10, xN_11, xN_12, xN_13, xN_14, xN_15, xN_16, xN_17, xN_18, xN_19, xN_20, xN_21, xN_22, xN_23, xN_24, xN_25, xN_26, xN_27, xN_28, xN_29, xN_30, xN_31, xN_32, xN_33, xN_34, xN_35, xN_36, xN_37, xN_38, xN_39, xN_40, xN_41, xN_42, xN_43, xN_44, xN_45, xN_46, xN_47, xN_48, xN_49, xN_50, xN_51, xN_52, xN_53, xN_54, xN_55, ti_0, ti_1, ti_2, ti_3, ti_4, ti_5, ti_6, ti_7, ti_8, ti_9, ti_10, ti_16, ti_19, ti_20, ti_29, ti_30, ti_31, ti_32, ti_35, ti_36, ti_38, ti_39, ti_40, ti_41, ti_42, ti_43, ti_44, ti_45, ti_46, ti_47, ti_48, ti_49, ti_50, ti_51, ti_52, ti_53, ti_54, ti_55, ti_56, ti_57, ti_58, ti_59, ti_60, ti_61, ti_62, ti_63, ti_64, ti_65, ti_74, ti_77, ti_126, ti_200, ti_201, ti_202, ti_203, ti_204, ti_205, ti_210, ti_255, ti_256, ti_400, ti_512, ti_600, ti_601, ti_602, ti_1000, ti_1023, ti_1024, ti_2000, ti_10000, ti_12602, ti_999999, ti_m999999, ti_m1, ti_2000000, ti_3000000, xN_1, xN_4, xN_5, xN_60, xN_61, xN_64, xN_200, xN_800, xN_12000, xN_12602, eq_self, and_self, and_true, true_and, if_true, if_false, decide_true, Nat.reduceLeDiff, xc2_int, xc2_ref, xc2_ra, xc2_null, xc2_long, xc2_none, xisaT_ref, xisaT_ra, xisaT_null, xc1T_int, xc1T_ref, xc1T_ra, xc1T_null, xsum_nil, xsum_int, xsum_ref, xsum_ra, xsum_long, xsum_double, xsum_null, xfl_nil, xfl_int, xfl_ref, xfl_ra, xfl_null, xfl_long, xfl_double, List.length_cons, List.length_nil, tv, tn, v0, xfk, xfv, xak, xan, xcls, xsv', List.getElem?_cons_zero, List.getElem?_cons_succ, List.getD_cons_zero, List.getD_cons_succ, Option.getD_some, Option.isSome_some, if_true, if_pos, xcont, Option.toList_none, Option.toList_some, List.nil_append, List.cons_append]
  by_cases c1 : v ≤ 9
  · rw [if_pos c1, s1.1 (by omega)]; rfl
  rw [if_neg c1, s1.2 (by omega), show (10 : Int) * -10 = -100 by decide, show (1 : Int) + 1 = 2 by decide]
  by_cases c2 : v ≤ 99
  · rw [if_pos c2, s2.1 (by omega)]; rfl
  rw [if_neg c2, s2.2 (by omega), show (10 : Int) * -100 = -1000 by decide, show (2 : Int) + 1 = 3 by decide]
  by_cases c3 : v ≤ 999
  · rw [if_pos c3, s3.1 (by omega)]; rfl
  rw [if_neg c3, s3.2 (by omega), show (10 : Int) * -1000 = -10000 by decide, show (3 : Int) + 1 = 4 by decide]
  by_cases c4 : v ≤ 9999
  · rw [if_pos c4, s4.1 (by omega)]; rfl
  rw [if_neg c4, s4.2 (by omega), show (10 : Int) * -10000 = -100000 by decide, show (4 : Int) + 1 = 5 by decide]
  by_cases c5 : v ≤ 99999
  · rw [if_pos c5, s5.1 (by omega)]; rfl
  rw [if_neg c5, s5.2 (by omega), show (10 : Int) * -100000 = -1000000 by decide, show (5 : Int) + 1 = 6 by decide, s6.1 (by omega)]
  rfl
theorem c_appI {v : Int} (hm : m ≤ S.2.1) (hbm : b + 1 < m) (hI : SbI S g b m L cap) (hv : 0 ≤ v ∧ v ≤ 999999) (hL : (L.length : Int) ≤ 640) :
    ∃ S' g' cap', SbX S S' g g' b m cap cap' ∧ SbI S' g' b m (L ++ dec v) cap' ∧ m ≤ S'.2.1 ∧ ∀ Q, Cw X (d + 5) 383 [.ref b, .int (iI v)] (hp S g) Q = Q (.inl (some (.ref b))) (hp S' g') := by
  have n3 : g b 3 = L.length := by obtain ⟨a, -, -, -, -, -, -, n3, -⟩ := hI; exact n3
  have s00 : ∃ a : Nat, S.1 b = .inr (1, [some (.ref a), none, none, none]) := by obtain ⟨a, s0, -⟩ := hI; exact ⟨a, s0⟩
  obtain ⟨a0, s00⟩ := s00
  have hdl := digF_len 2 v
  have edl : (dec v).length = (digF 2 v).length := by rw [dec_eq hv, List.length_reverse]
  obtain ⟨S1, g1, cap1, X1, I1, m1, l1, k1⟩ := c_ensure (X := X) (d := d) (n := L.length + (dec v).length) hm hbm hI (by omega) (by omega) hL
  have kl := c_isLat (X := X) (d := d + 3) I1
  obtain ⟨a, s0, s1, hab, hal, hc, e1, e3, hr, hT, hl⟩ := I1
  have ra : ¬ a = b := by rcases hab with h | h <;> omega
  have ra2 : ∀ h, ¬ h = b + 1 → h < m → ¬ h = a := fun h h1 h2 => by rcases hab with h' | h' <;> omega
  have ks := fun w Q => c_size (X := X) (d := d + 3) (w := w) hv Q
  obtain ⟨z, kg⟩ := l_gc (X := X) (d := d + 3) (S := S1) (x := L.length + (dec v).length) s1 (by omega) 2 v (L.length + (dec v).length) g1 none none hv.1 (by show v < 1000000; omega) hv.2 (by omega) l1
  have tv : ti v = v := ti_eq (by omega) (by omega)
  have v0 : ¬ 0 ≤ v → False := fun h => h hv.1
  have hv0 := hv.1
  have k415 : ∀ Q, Cw X (d + 3) 415 [.int (iI v), .int (iI (L.length + (dec v).length)), .ref a] (hp S1 g1) Q = Q (.inl (some (.int (iI z)))) (hp S1 (wr g1 a (L.length + (dec v).length) (digF 2 v))) := fun Q => by
    rw [e415]
    simp (config := { decide := true }) only [w_iload_n1 (pc' := 1) q415 d415_0 rfl, w_istore5 (pc' := 3) q415 d415_1 rfl, w_iload_n0 (pc' := 4) q415 d415_3 rfl, w_if_ge (tg := 11) (pc' := 7) q415 d415_4 (by decide) rfl, w_iconst (pc' := 12) q415 d415_11 rfl, w_istore6 (pc' := 14) q415 d415_12 rfl, w_iload6 (pc' := 16) q415 d415_14 rfl, w_if_ne (tg := 22) (pc' := 19) q415 d415_16 (by decide) rfl, w_iload_n0 (pc' := 20) q415 d415_19 rfl, w_ineg (pc' := 21) q415 d415_20 rfl, w_istore_n0 (pc' := 22) q415 d415_21 rfl, gs_off, gs_off0, gs_0off, gs_2, xN_0, xN_2, xN_3, xN_6, xN_7, xN_8, xN_9, xN_10, xN_11, xN_12, xN_13, xN_14, xN_15, xN_16, xN_17, xN_18, xN_19, xN_20, xN_21, xN_22, xN_23, xN_24, xN_25, xN_26, xN_27, xN_28, xN_29, xN_30, xN_31, xN_32, xN_33, xN_34, xN_35, xN_36, xN_37, xN_38, xN_39, xN_40, xN_41, xN_42, xN_43, xN_44, xN_45, xN_46, xN_47, xN_48, xN_49, xN_50, xN_51, xN_52, xN_53, xN_54, xN_55, ti_0, ti_1, ti_2, ti_3, ti_4, ti_5, ti_6, ti_7, ti_8, ti_9, ti_10, ti_16, ti_19, ti_20, ti_29, ti_30, ti_31, ti_32, ti_35, ti_36, ti_38, ti_39, ti_40, ti_41, ti_42, ti_43, ti_44, ti_45, ti_46, ti_47, ti_48, ti_49, ti_50, ti_51, ti_52, ti_53, ti_54, ti_55, ti_56, ti_57, ti_58, ti_59, ti_60, ti_61, ti_62, ti_63, ti_64, ti_65, ti_74, ti_77, ti_126, ti_200, ti_201, ti_202, ti_203, ti_204, ti_205, ti_210, ti_255, ti_256, ti_400, ti_512, ti_600, ti_601, ti_602, ti_1000, ti_1023, ti_1024, ti_2000, ti_10000, ti_12602, ti_999999, ti_m999999, ti_m1, ti_2000000, ti_3000000, xN_1, xN_4, xN_5, xN_60, xN_61, xN_64, xN_200, xN_800, xN_12000, xN_12602, eq_self, and_self, and_true, true_and, if_true, if_false, decide_true, Nat.reduceLeDiff, xc2_int, xc2_ref, xc2_ra, xc2_null, xc2_long, xc2_none, xisaT_ref, xisaT_ra, xisaT_null, xc1T_int, xc1T_ref, xc1T_ra, xc1T_null, xsum_nil, xsum_int, xsum_ref, xsum_ra, xsum_long, xsum_double, xsum_null, xfl_nil, xfl_int, xfl_ref, xfl_ra, xfl_null, xfl_long, xfl_double, List.length_cons, List.length_nil, tv, hv0, xfk, xfv, xak, xan, xcls, xsv', List.getElem?_cons_zero, List.getElem?_cons_succ, List.getD_cons_zero, List.getD_cons_succ, Option.getD_some, Option.isSome_some, if_true, if_pos, xcont, Option.toList_none, Option.toList_some, List.nil_append, List.cons_append]
    exact kg Q
  have n10 : ¬ (1 : Int) = 0 := by decide
  have k390 : ∀ Q, Cw X (d + 4) 390 [.ref b, .int (iI v)] (hp S g) Q = Q (.inl (some (.ref b))) (hp S1 (gs (wr g1 a (L.length + (dec v).length) (digF 2 v)) b 3 (L.length + (dec v).length))) := fun Q => by
    rw [e390]
    simp (config := { decide := true }) only [w_aload_n0 (pc' := 1) q390 d390_0 rfl, w_getI (pc' := 4) q390 d390_1 rfl f390_79, w_istore_n2 (pc' := 5) q390 d390_4 rfl, w_iload_n2 (pc' := 6) q390 d390_5 rfl, w_iload_n1 (pc' := 7) q390 d390_6 rfl, w_invs1 (pc' := 10) q390 d390_7 rfl (by decide +kernel) k390_245_99 m414.1, w_iadd (pc' := 11) q390 d390_10 rfl, w_istore_n3 (pc' := 12) q390 d390_11 rfl, w_aload_n0 (pc' := 13) q390 d390_12 rfl, w_iload_n3 (pc' := 14) q390 d390_13 rfl, w_invv1 (ci := 1) (pc' := 17) q390 d390_14 rfl n390_100 k390_100_1 m394.1, w_aload_n0 (pc' := 18) q390 d390_17 rfl, w_invv0 (ci := 1) (pc' := 21) q390 d390_18 rfl n390_83 k390_83_1 m396.1, w_if_eq (tg := 37) (pc' := 24) q390 d390_21 (by decide) rfl, w_iload_n1 (pc' := 25) q390 d390_24 rfl, w_iload_n3 (pc' := 26) q390 d390_25 rfl, w_aload_n0 (pc' := 27) q390 d390_26 rfl, w_getV (pc' := 30) q390 d390_27 rfl f390_15, w_invs3 (pc' := 33) q390 d390_30 rfl (by decide +kernel) k390_248_99 m415.1, w_pop (pc' := 34) q390 d390_33 rfl, w_goto (tg := 48) q390 d390_34 (by decide), w_aload_n0 (pc' := 49) q390 d390_48 rfl, w_iload_n3 (pc' := 50) q390 d390_49 rfl, w_putI (pc' := 53) q390 d390_50 rfl f390_79 rfl (by decide +kernel), w_aload_n0 (pc' := 54) q390 d390_53 rfl, w_areturn q390 d390_54 m390.2.1, gs_off, gs_off0, gs_0off, gs_2, xN_0, xN_2, xN_3, xN_6, xN_7, xN_8, xN_9, xN_10, xN_11, xN_12, xN_13, xN_14, xN_15, xN_16, xN_17, xN_18, xN_19, xN_20, xN_21, xN_22, xN_23, xN_24, xN_25, xN_26, xN_27, xN_28, xN_29, xN_30, xN_31, xN_32, xN_33, xN_34, xN_35, xN_36, xN_37, xN_38, xN_39, xN_40, xN_41, xN_42, xN_43, xN_44, xN_45, xN_46, xN_47, xN_48, xN_49, xN_50, xN_51, xN_52, xN_53, xN_54, xN_55, ti_0, ti_1, ti_2, ti_3, ti_4, ti_5, ti_6, ti_7, ti_8, ti_9, ti_10, ti_16, ti_19, ti_20, ti_29, ti_30, ti_31, ti_32, ti_35, ti_36, ti_38, ti_39, ti_40, ti_41, ti_42, ti_43, ti_44, ti_45, ti_46, ti_47, ti_48, ti_49, ti_50, ti_51, ti_52, ti_53, ti_54, ti_55, ti_56, ti_57, ti_58, ti_59, ti_60, ti_61, ti_62, ti_63, ti_64, ti_65, ti_74, ti_77, ti_126, ti_200, ti_201, ti_202, ti_203, ti_204, ti_205, ti_210, ti_255, ti_256, ti_400, ti_512, ti_600, ti_601, ti_602, ti_1000, ti_1023, ti_1024, ti_2000, ti_10000, ti_12602, ti_999999, ti_m999999, ti_m1, ti_2000000, ti_3000000, xN_1, xN_4, xN_5, xN_60, xN_61, xN_64, xN_200, xN_800, xN_12000, xN_12602, eq_self, and_self, and_true, true_and, if_true, if_false, decide_true, Nat.reduceLeDiff, xc2_int, xc2_ref, xc2_ra, xc2_null, xc2_long, xc2_none, xisaT_ref, xisaT_ra, xisaT_null, xc1T_int, xc1T_ref, xc1T_ra, xc1T_null, xsum_nil, xsum_int, xsum_ref, xsum_ra, xsum_long, xsum_double, xsum_null, xfl_nil, xfl_int, xfl_ref, xfl_ra, xfl_null, xfl_long, xfl_double, List.length_cons, List.length_nil, s00, n3, ks, k1, kl, n10, s0, k415, xra_asb, xfk, xfv, xak, xan, xcls, xsv', List.getElem?_cons_zero, List.getElem?_cons_succ, List.getD_cons_zero, List.getD_cons_succ, Option.getD_some, Option.isSome_some, if_true, if_pos, xcont, Option.toList_none, Option.toList_some, List.nil_append, List.cons_append]
  have hun : v < hunF 2 := by show v < 1000000; omega
  refine ⟨S1, gs (wr g1 a (L.length + (dec v).length) (digF 2 v)) b 3 (L.length + (dec v).length), cap1, ?_, ⟨a, s0, s1, hab, hal, hc, ?_, ?_, ?_, ?_, ?_⟩, m1, fun Q => ?_⟩
  · obtain ⟨x1, x2, x3, x4, x5⟩ := X1
    exact ⟨x1, x2, fun h h1 h2 h3 => by rw [gs_row _ _ _ h1, wr_row (ra2 h h2 h3)]; exact x3 h h1 h2 h3, x4, x5⟩
  · rw [gs_at, if_neg (by decide), wr_row (fun e => ra e.symm)]; exact e1
  · rw [gs_at, if_pos rfl, List.length_append]
    omega
  · have h := wr_rg (digF 2 v) (L.length + (dec v).length) g1 (fun x hx => by have := digF_rng 2 v hv.1 hun x hx; omega) hr
    unfold rg at h ⊢
    rw [gs_row _ _ _ ra]
    exact h
  · rw [gs_row _ _ _ ra]
    refine (TL_app _ L (dec v) 0).mpr ⟨TL_congr L 0 (fun j j1 j2 => wr_out _ _ _ (by omega)) hT, ?_⟩
    have h := wr_TL (a := a) (digF 2 v) (L.length + (dec v).length) g1
    rw [dec_eq hv] at h ⊢
    rw [List.length_reverse] at h ⊢
    rw [show (L.length : Int) + ((digF 2 v).length : Nat) - ((digF 2 v).length : Nat) = 0 + L.length by omega] at h
    exact h
  · rw [List.length_append]
    omega
  · rw [e383]
    simp (config := { decide := true }) only [w_aload_n0 (pc' := 1) q383 d383_0 rfl, w_iload_n1 (pc' := 2) q383 d383_1 rfl, w_invp1 (pc' := 5) q383 d383_2 rfl (by decide +kernel) k383_53_98 m390.1, w_pop (pc' := 6) q383 d383_5 rfl, w_aload_n0 (pc' := 7) q383 d383_6 rfl, w_areturn q383 d383_7 m383.2.1, gs_off, gs_off0, gs_0off, gs_2, xN_0, xN_2, xN_3, xN_6, xN_7, xN_8, xN_9, xN_10, xN_11, xN_12, xN_13, xN_14, xN_15, xN_16, xN_17, xN_18, xN_19, xN_20, xN_21, xN_22, xN_23, xN_24, xN_25, xN_26, xN_27, xN_28, xN_29, xN_30, xN_31, xN_32, xN_33, xN_34, xN_35, xN_36, xN_37, xN_38, xN_39, xN_40, xN_41, xN_42, xN_43, xN_44, xN_45, xN_46, xN_47, xN_48, xN_49, xN_50, xN_51, xN_52, xN_53, xN_54, xN_55, ti_0, ti_1, ti_2, ti_3, ti_4, ti_5, ti_6, ti_7, ti_8, ti_9, ti_10, ti_16, ti_19, ti_20, ti_29, ti_30, ti_31, ti_32, ti_35, ti_36, ti_38, ti_39, ti_40, ti_41, ti_42, ti_43, ti_44, ti_45, ti_46, ti_47, ti_48, ti_49, ti_50, ti_51, ti_52, ti_53, ti_54, ti_55, ti_56, ti_57, ti_58, ti_59, ti_60, ti_61, ti_62, ti_63, ti_64, ti_65, ti_74, ti_77, ti_126, ti_200, ti_201, ti_202, ti_203, ti_204, ti_205, ti_210, ti_255, ti_256, ti_400, ti_512, ti_600, ti_601, ti_602, ti_1000, ti_1023, ti_1024, ti_2000, ti_10000, ti_12602, ti_999999, ti_m999999, ti_m1, ti_2000000, ti_3000000, xN_1, xN_4, xN_5, xN_60, xN_61, xN_64, xN_200, xN_800, xN_12000, xN_12602, eq_self, and_self, and_true, true_and, if_true, if_false, decide_true, Nat.reduceLeDiff, xc2_int, xc2_ref, xc2_ra, xc2_null, xc2_long, xc2_none, xisaT_ref, xisaT_ra, xisaT_null, xc1T_int, xc1T_ref, xc1T_ra, xc1T_null, xsum_nil, xsum_int, xsum_ref, xsum_ra, xsum_long, xsum_double, xsum_null, xfl_nil, xfl_int, xfl_ref, xfl_ra, xfl_null, xfl_long, xfl_double, List.length_cons, List.length_nil, s00, k390, xra_sb, xfk, xfv, xak, xan, xcls, xsv', List.getElem?_cons_zero, List.getElem?_cons_succ, List.getD_cons_zero, List.getD_cons_succ, Option.getD_some, Option.isSome_some, if_true, if_pos, xcont, Option.toList_none, Option.toList_some, List.nil_append, List.cons_append]
/-- the builder is emptied -/
theorem c_setLen0 (hm : m ≤ S.2.1) (hbm : b + 1 < m) (hI : SbI S g b m L cap) (hL : (L.length : Int) ≤ 640) :
    ∃ S' g' cap', SbX S S' g g' b m cap cap' ∧ SbI S' g' b m [] cap' ∧ m ≤ S'.2.1 ∧ ∀ Q, Cw X (d + 5) 386 [.ref b, .int (iI 0)] (hp S g) Q = Q (.inl none) (hp S' g') := by
  have s00 : ∃ a : Nat, S.1 b = .inr (1, [some (.ref a), none, none, none]) := by obtain ⟨a, s0, -⟩ := hI; exact ⟨a, s0⟩
  obtain ⟨a0, s00⟩ := s00
  obtain ⟨S1, g1, cap1, X1, I1, m1, l1, k1⟩ := c_ensure (X := X) (d := d) (n := 0) hm hbm hI (by omega) (by omega) hL
  obtain ⟨a, s0, s1, hab, hal, hc, e1, e3, hr, hT, hl⟩ := I1
  have ra : ¬ a = b := by rcases hab with h | h <;> omega
  have tl : ti ((L.length : Nat) : Int) = (L.length : Nat) := ti_eq (by omega) (by omega)
  have l0 : ¬ ((L.length : Nat) : Int) < 0 := by omega
  have l0' : (0 : Int) ≤ (L.length : Nat) := by omega
  obtain ⟨G, eG⟩ : ∃ G, G = if ((L.length : Nat) : Int) ≤ 0 then gs g1 b 3 0 else gs (gs g1 b 2 1) b 3 0 := ⟨_, rfl⟩
  have hG : ∀ h, ¬ h = b → G h = g1 h := fun h hh => by
    rw [eG]; split
    · rw [gs_row _ _ _ hh]
    · rw [gs_row _ _ _ hh, gs_row _ _ _ hh]
  have hG1 : G b 1 = 0 := by
    rw [eG]; split
    · rw [gs_at, if_neg (by decide)]; exact e1
    · rw [gs_at, if_neg (by decide), gs_at, if_neg (by decide)]; exact e1
  have hG3 : G b 3 = 0 := by
    rw [eG]; split
    · rw [gs_at, if_pos rfl]
    · rw [gs_at, if_pos rfl]
  have z0 : ¬ (0 : Int) < 0 := by decide
  have k393 : ∀ Q, Cw X (d + 4) 393 [.ref b, .int (iI 0)] (hp S g) Q = Q (.inl none) (hp S1 G) := fun Q => by
    rw [e393, eG]
    by_cases h : ((L.length : Nat) : Int) ≤ 0
    · rw [if_pos h]
      simp (config := { decide := true }) only [w_iload_n1 (pc' := 1) q393 d393_0 rfl, w_if_ge (tg := 13) (pc' := 4) q393 d393_1 (by decide) rfl, w_aload_n0 (pc' := 14) q393 d393_13 rfl, w_iload_n1 (pc' := 15) q393 d393_14 rfl, w_invv1 (ci := 1) (pc' := 18) q393 d393_15 rfl n393_100 k393_100_1 m394.1, w_aload_n0 (pc' := 19) q393 d393_18 rfl, w_getI (pc' := 22) q393 d393_19 rfl f393_79, w_iload_n1 (pc' := 23) q393 d393_22 rfl, w_icmp_ge (tg := 63) (pc' := 26) q393 d393_23 (by decide) rfl, w_aload_n0 (pc' := 64) q393 d393_63 rfl, w_getI (pc' := 67) q393 d393_64 rfl f393_79, w_iload_n1 (pc' := 68) q393 d393_67 rfl, w_icmp_le (tg := 76) (pc' := 71) q393 d393_68 (by decide) rfl, w_aload_n0 (pc' := 72) q393 d393_71 rfl, w_iconst (pc' := 73) q393 d393_72 rfl, w_putZ (pc' := 76) q393 d393_73 rfl f393_73 rfl (by decide +kernel), w_aload_n0 (pc' := 77) q393 d393_76 rfl, w_iload_n1 (pc' := 78) q393 d393_77 rfl, w_putI (pc' := 81) q393 d393_78 rfl f393_79 rfl (by decide +kernel), w_return q393 d393_81 m393.2.1, gs_off, gs_off0, gs_0off, gs_2, xN_0, xN_2, xN_3, xN_6, xN_7, xN_8, xN_9, xN_10, xN_11, xN_12, xN_13, xN_14, xN_15, xN_16, xN_17, xN_18, xN_19, xN_20, xN_21, xN_22, xN_23, xN_24, xN_25, xN_26, xN_27, xN_28, xN_29, xN_30, xN_31, xN_32, xN_33, xN_34, xN_35, xN_36, xN_37, xN_38, xN_39, xN_40, xN_41, xN_42, xN_43, xN_44, xN_45, xN_46, xN_47, xN_48, xN_49, xN_50, xN_51, xN_52, xN_53, xN_54, xN_55, ti_0, ti_1, ti_2, ti_3, ti_4, ti_5, ti_6, ti_7, ti_8, ti_9, ti_10, ti_16, ti_19, ti_20, ti_29, ti_30, ti_31, ti_32, ti_35, ti_36, ti_38, ti_39, ti_40, ti_41, ti_42, ti_43, ti_44, ti_45, ti_46, ti_47, ti_48, ti_49, ti_50, ti_51, ti_52, ti_53, ti_54, ti_55, ti_56, ti_57, ti_58, ti_59, ti_60, ti_61, ti_62, ti_63, ti_64, ti_65, ti_74, ti_77, ti_126, ti_200, ti_201, ti_202, ti_203, ti_204, ti_205, ti_210, ti_255, ti_256, ti_400, ti_512, ti_600, ti_601, ti_602, ti_1000, ti_1023, ti_1024, ti_2000, ti_10000, ti_12602, ti_999999, ti_m999999, ti_m1, ti_2000000, ti_3000000, xN_1, xN_4, xN_5, xN_60, xN_61, xN_64, xN_200, xN_800, xN_12000, xN_12602, eq_self, and_self, and_true, true_and, if_true, if_false, decide_true, Nat.reduceLeDiff, xc2_int, xc2_ref, xc2_ra, xc2_null, xc2_long, xc2_none, xisaT_ref, xisaT_ra, xisaT_null, xc1T_int, xc1T_ref, xc1T_ra, xc1T_null, xsum_nil, xsum_int, xsum_ref, xsum_ra, xsum_long, xsum_double, xsum_null, xfl_nil, xfl_int, xfl_ref, xfl_ra, xfl_null, xfl_long, xfl_double, List.length_cons, List.length_nil, s00, ti_0, Int.le_refl, k1, s0, e3, tl, l0, l0', h, xfk, xfv, xak, xan, xcls, xsv', List.getElem?_cons_zero, List.getElem?_cons_succ, List.getD_cons_zero, List.getD_cons_succ, Option.getD_some, Option.isSome_some, if_true, if_pos, xcont, Option.toList_none, Option.toList_some, List.nil_append, List.cons_append]
    · rw [if_neg h]
      simp (config := { decide := true }) only [w_iload_n1 (pc' := 1) q393 d393_0 rfl, w_if_ge (tg := 13) (pc' := 4) q393 d393_1 (by decide) rfl, w_aload_n0 (pc' := 14) q393 d393_13 rfl, w_iload_n1 (pc' := 15) q393 d393_14 rfl, w_invv1 (ci := 1) (pc' := 18) q393 d393_15 rfl n393_100 k393_100_1 m394.1, w_aload_n0 (pc' := 19) q393 d393_18 rfl, w_getI (pc' := 22) q393 d393_19 rfl f393_79, w_iload_n1 (pc' := 23) q393 d393_22 rfl, w_icmp_ge (tg := 63) (pc' := 26) q393 d393_23 (by decide) rfl, w_aload_n0 (pc' := 64) q393 d393_63 rfl, w_getI (pc' := 67) q393 d393_64 rfl f393_79, w_iload_n1 (pc' := 68) q393 d393_67 rfl, w_icmp_le (tg := 76) (pc' := 71) q393 d393_68 (by decide) rfl, w_aload_n0 (pc' := 72) q393 d393_71 rfl, w_iconst (pc' := 73) q393 d393_72 rfl, w_putZ (pc' := 76) q393 d393_73 rfl f393_73 rfl (by decide +kernel), w_aload_n0 (pc' := 77) q393 d393_76 rfl, w_iload_n1 (pc' := 78) q393 d393_77 rfl, w_putI (pc' := 81) q393 d393_78 rfl f393_79 rfl (by decide +kernel), w_return q393 d393_81 m393.2.1, gs_off, gs_off0, gs_0off, gs_2, xN_0, xN_2, xN_3, xN_6, xN_7, xN_8, xN_9, xN_10, xN_11, xN_12, xN_13, xN_14, xN_15, xN_16, xN_17, xN_18, xN_19, xN_20, xN_21, xN_22, xN_23, xN_24, xN_25, xN_26, xN_27, xN_28, xN_29, xN_30, xN_31, xN_32, xN_33, xN_34, xN_35, xN_36, xN_37, xN_38, xN_39, xN_40, xN_41, xN_42, xN_43, xN_44, xN_45, xN_46, xN_47, xN_48, xN_49, xN_50, xN_51, xN_52, xN_53, xN_54, xN_55, ti_0, ti_1, ti_2, ti_3, ti_4, ti_5, ti_6, ti_7, ti_8, ti_9, ti_10, ti_16, ti_19, ti_20, ti_29, ti_30, ti_31, ti_32, ti_35, ti_36, ti_38, ti_39, ti_40, ti_41, ti_42, ti_43, ti_44, ti_45, ti_46, ti_47, ti_48, ti_49, ti_50, ti_51, ti_52, ti_53, ti_54, ti_55, ti_56, ti_57, ti_58, ti_59, ti_60, ti_61, ti_62, ti_63, ti_64, ti_65, ti_74, ti_77, ti_126, ti_200, ti_201, ti_202, ti_203, ti_204, ti_205, ti_210, ti_255, ti_256, ti_400, ti_512, ti_600, ti_601, ti_602, ti_1000, ti_1023, ti_1024, ti_2000, ti_10000, ti_12602, ti_999999, ti_m999999, ti_m1, ti_2000000, ti_3000000, xN_1, xN_4, xN_5, xN_60, xN_61, xN_64, xN_200, xN_800, xN_12000, xN_12602, eq_self, and_self, and_true, true_and, if_true, if_false, decide_true, Nat.reduceLeDiff, xc2_int, xc2_ref, xc2_ra, xc2_null, xc2_long, xc2_none, xisaT_ref, xisaT_ra, xisaT_null, xc1T_int, xc1T_ref, xc1T_ra, xc1T_null, xsum_nil, xsum_int, xsum_ref, xsum_ra, xsum_long, xsum_double, xsum_null, xfl_nil, xfl_int, xfl_ref, xfl_ra, xfl_null, xfl_long, xfl_double, List.length_cons, List.length_nil, s00, ti_0, ti_1, Int.le_refl, k1, s0, e3, tl, l0, l0', h, or_true, xfk, xfv, xak, xan, xcls, xsv', List.getElem?_cons_zero, List.getElem?_cons_succ, List.getD_cons_zero, List.getD_cons_succ, Option.getD_some, Option.isSome_some, if_true, if_pos, xcont, Option.toList_none, Option.toList_some, List.nil_append, List.cons_append]
  refine ⟨S1, G, cap1, ?_, ⟨a, s0, s1, hab, hal, hc, hG1, hG3, ?_, trivial, by show ((0 : Nat) : Int) ≤ _; omega⟩, m1, fun Q => ?_⟩
  · obtain ⟨x1, x2, x3, x4, x5⟩ := X1
    exact ⟨x1, x2, fun h h1 h2 h3 => (hG h h1).trans (x3 h h1 h2 h3), x4, x5⟩
  · unfold rg
    rw [hG a ra]
    exact hr
  · rw [e386]
    simp (config := { decide := true }) only [w_aload_n0 (pc' := 1) q386 d386_0 rfl, w_iload_n1 (pc' := 2) q386 d386_1 rfl, w_invp1 (pc' := 5) q386 d386_2 rfl (by decide +kernel) k386_333_98 m393.1, w_return q386 d386_5 m386.2.1, gs_off, gs_off0, gs_0off, gs_2, xN_0, xN_2, xN_3, xN_6, xN_7, xN_8, xN_9, xN_10, xN_11, xN_12, xN_13, xN_14, xN_15, xN_16, xN_17, xN_18, xN_19, xN_20, xN_21, xN_22, xN_23, xN_24, xN_25, xN_26, xN_27, xN_28, xN_29, xN_30, xN_31, xN_32, xN_33, xN_34, xN_35, xN_36, xN_37, xN_38, xN_39, xN_40, xN_41, xN_42, xN_43, xN_44, xN_45, xN_46, xN_47, xN_48, xN_49, xN_50, xN_51, xN_52, xN_53, xN_54, xN_55, ti_0, ti_1, ti_2, ti_3, ti_4, ti_5, ti_6, ti_7, ti_8, ti_9, ti_10, ti_16, ti_19, ti_20, ti_29, ti_30, ti_31, ti_32, ti_35, ti_36, ti_38, ti_39, ti_40, ti_41, ti_42, ti_43, ti_44, ti_45, ti_46, ti_47, ti_48, ti_49, ti_50, ti_51, ti_52, ti_53, ti_54, ti_55, ti_56, ti_57, ti_58, ti_59, ti_60, ti_61, ti_62, ti_63, ti_64, ti_65, ti_74, ti_77, ti_126, ti_200, ti_201, ti_202, ti_203, ti_204, ti_205, ti_210, ti_255, ti_256, ti_400, ti_512, ti_600, ti_601, ti_602, ti_1000, ti_1023, ti_1024, ti_2000, ti_10000, ti_12602, ti_999999, ti_m999999, ti_m1, ti_2000000, ti_3000000, xN_1, xN_4, xN_5, xN_60, xN_61, xN_64, xN_200, xN_800, xN_12000, xN_12602, eq_self, and_self, and_true, true_and, if_true, if_false, decide_true, Nat.reduceLeDiff, xc2_int, xc2_ref, xc2_ra, xc2_null, xc2_long, xc2_none, xisaT_ref, xisaT_ra, xisaT_null, xc1T_int, xc1T_ref, xc1T_ra, xc1T_null, xsum_nil, xsum_int, xsum_ref, xsum_ra, xsum_long, xsum_double, xsum_null, xfl_nil, xfl_int, xfl_ref, xfl_ra, xfl_null, xfl_long, xfl_double, List.length_cons, List.length_nil, s00, k393, xfk, xfv, xak, xan, xcls, xsv', List.getElem?_cons_zero, List.getElem?_cons_succ, List.getD_cons_zero, List.getD_cons_succ, Option.getD_some, Option.isSome_some, if_true, if_pos, xcont, Option.toList_none, Option.toList_some, List.nil_append, List.cons_append]
end
