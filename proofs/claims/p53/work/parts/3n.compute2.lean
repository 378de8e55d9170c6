/-! Calculation: computing, the whole -/
section
variable {X : xX} {S : xLm} {g : xGm}
def CmJ (g G1 G : xGm) (k : Nat) (i : Int) : Prop :=
  (∀ c, 0 ≤ c → c < 200 → ¬ (oin (g (k + 7 + 2)) i c ∧ g (k + 7 + 6) c = 1 ∧ g (k + 7 + 4) c < 0) → G (k + 1 + 3) c = G1 (k + 1 + 3) c ∧ G (k + 1 + 2) c = G1 (k + 1 + 2) c) ∧
  (∀ c, oin (g (k + 7 + 2)) i c → g (k + 7 + 6) c = 1 → g (k + 7 + 4) c < 0 → G (k + 1 + 3) c = 5 ∧ G (k + 1 + 2) c = 0)
theorem l_cm2 {k d : Nat} {n : Int} {G1 : xGm} {Z : Int} (hS : ClS S k) (hF : rg g (k + 7 + 2) 0 199) (hP : rg g (k + 7 + 4) (-1) 199) (hM : rg g (k + 7 + 6) 0 1) (hn : g (k + 7) 2 = n) (hn0 : 0 ≤ n) (hn2 : n ≤ 200) (hZ : Z = sumf (fun i => g (k + 7 + 6) (g (k + 7 + 2) i)) 0 n.toNat) : ∀ (m : Nat) (i : Int) (G : xGm) (a e : Int) (y2 y3 y4 : Option Value), i + m = n → 0 ≤ i → (∀ h, ¬ h = k → ¬ h = k + 1 + 2 → ¬ h = k + 1 + 3 → G h = g h) → StI G (k + 1) → CmJ g G1 G k i →
    ∃ G' a' e', (∀ h, ¬ h = k → ¬ h = k + 1 + 2 → ¬ h = k + 1 + 3 → G' h = g h) ∧ StI G' (k + 1) ∧ CmJ g G1 G' k n ∧ ∀ Q, Wx X (d + 2) 64 94 [some (.ref k), some (.int (iI i)), y2, y3, y4] [] (hp S (gE G k a e)) Q = Q (.inl (some (.int (iI Z)))) (hp S (gE G' k a' e')) := by
  obtain ⟨k0, hB, hK⟩ := id hS
  obtain ⟨b0, b1, b2, b3, b4, b5⟩ := id hB
  obtain ⟨l0, l1, l2, l3, l4, l5, l6, l7, l8⟩ := id hK
  intro m
  induction m with
  | zero =>
    intro i G a e y2 y3 y4 hm h hfr hI hC
    obtain rfl : i = n := by omega
    have ti' : ti i = i := ti_eq (by omega) (by omega)
    have e2 : gE G k a e (k + 7) 2 = i := by rw [gE_row _ _ (by omega), hfr _ (by omega) (by omega) (by omega)]; exact hn
    have er : ∀ h, ¬ h = k → ¬ h = k + 1 + 2 → ¬ h = k + 1 + 3 → gE G k a e h = g h := fun h x1 x2 x3 => by rw [gE_row _ _ x1]; exact hfr h x1 x2 x3
    have hcm := fun Q => c_marked (X := X) (d := d) (g := gE G k a e) (Q := Q) hK e2 hn0 hn2 (by unfold rg; rw [er _ (by omega) (by omega) (by omega)]; exact hF) (by unfold rg; rw [er _ (by omega) (by omega) (by omega)]; exact hM)
    rw [er (k + 7 + 6) (by omega) (by omega) (by omega), er (k + 7 + 2) (by omega) (by omega) (by omega), ← hZ] at hcm
    refine ⟨G, a, e, hfr, hI, hC, fun Q => ?_⟩
    rw [w_iload_n1 (pc' := 95) q64 d64_94 rfl]
    simp (config := { decide := true }) only [w_aload_n0 (pc' := 96) q64 d64_95 rfl, w_getV (pc' := 99) q64 d64_96 rfl f64_21, w_getI (pc' := 102) q64 d64_99 rfl f64_54, w_icmp_ge (tg := 155) (pc' := 105) q64 d64_102 (by decide) rfl, w_aload_n0 (pc' := 156) q64 d64_155 rfl, w_getV (pc' := 159) q64 d64_156 rfl f64_21, w_invv0 (ci := 6) (pc' := 162) q64 d64_159 rfl n64_93 k64_93_6 m111.1, w_ireturn q64 d64_162 m64.2.1, gs_off, gs_off0, gs_0off, gs_2, xN_0, xN_2, xN_3, xN_6, xN_7, xN_8, xN_9, xN_10, xN_11, xN_12, xN_13, xN_14, xN_15, xN_16, xN_17, xN_18, xN_19, xN_20, xN_21, xN_22, xN_23, xN_24, xN_25, xN_26, xN_27, xN_28, xN_29, xN_30, xN_31, xN_32, xN_33, xN_34, xN_35, xN_36, xN_37, xN_38, xN_39, xN_40, xN_41, xN_42, xN_43, xN_44, xN_45, xN_46, xN_47, xN_48, xN_49, xN_50, xN_51, xN_52, xN_53, xN_54, xN_55, ti_0, ti_1, ti_2, ti_3, ti_4, ti_5, ti_6, ti_7, ti_8, ti_9, ti_10, ti_16, ti_19, ti_20, ti_29, ti_30, ti_31, ti_32, ti_35, ti_36, ti_38, ti_39, ti_40, ti_41, ti_42, ti_43, ti_44, ti_45, ti_46, ti_47, ti_48, ti_49, ti_50, ti_51, ti_52, ti_53, ti_54, ti_55, ti_56, ti_57, ti_58, ti_59, ti_60, ti_61, ti_62, ti_63, ti_64, ti_65, ti_74, ti_77, ti_126, ti_200, ti_201, ti_202, ti_203, ti_204, ti_205, ti_210, ti_255, ti_256, ti_400, ti_512, ti_600, ti_601, ti_602, ti_1000, ti_1023, ti_1024, ti_2000, ti_10000, ti_12602, ti_999999, ti_m999999, ti_m1, ti_2000000, ti_3000000, xN_1, xN_4, xN_5, xN_60, xN_61, xN_64, xN_200, xN_800, xN_12000, xN_12602, eq_self, and_self, and_true, true_and, if_true, if_false, decide_true, Nat.reduceLeDiff, xc2_int, xc2_ref, xc2_ra, xc2_null, xc2_long, xc2_none, xisaT_ref, xisaT_ra, xisaT_null, xc1T_int, xc1T_ref, xc1T_ra, xc1T_null, xsum_nil, xsum_int, xsum_ref, xsum_ra, xsum_long, xsum_double, xsum_null, xfl_nil, xfl_int, xfl_ref, xfl_ra, xfl_null, xfl_long, xfl_double, List.length_cons, List.length_nil, k0, l0, e2, ti', Int.le_refl, hcm, xfk, xfv, xak, xan, xcls, xsv', List.getElem?_cons_zero, List.getElem?_cons_succ, List.getD_cons_zero, List.getD_cons_succ, Option.getD_some, Option.isSome_some, if_true, if_pos, xcont, Option.toList_none, Option.toList_some, List.nil_append, List.cons_append]
  | succ m ih =>
    intro i G a e y2 y3 y4 hm h hfr hI hC
    have ti' : ti i = i := ti_eq (by omega) (by omega)
    have tn : ti n = n := ti_eq (by omega) (by omega)
    have hlt : ¬ n ≤ i := by omega
    have i2 : i < 200 := by omega
    have er : ∀ h, ¬ h = k → ¬ h = k + 1 + 2 → ¬ h = k + 1 + 3 → gE G k a e h = g h := fun h x1 x2 x3 => by rw [gE_row _ _ x1]; exact hfr h x1 x2 x3
    have e2 : gE G k a e (k + 7) 2 = n := by rw [er _ (by omega) (by omega) (by omega)]; exact hn
    obtain ⟨c, ec⟩ : ∃ c, g (k + 7 + 2) i = c := ⟨_, rfl⟩
    have hc := hF i
    rw [ec] at hc
    have c2 : c < 200 := by omega
    have e3 : gE G k a e (k + 7 + 2) i = c := by rw [er _ (by omega) (by omega) (by omega)]; exact ec
    have e6 : gE G k a e (k + 7 + 6) c = g (k + 7 + 6) c := by rw [er _ (by omega) (by omega) (by omega)]
    have e4 : gE G k a e (k + 7 + 4) c = g (k + 7 + 4) c := by rw [er _ (by omega) (by omega) (by omega)]
    have tc : ti c = c := ti_eq (by omega) (by omega)
    have hMc := hM c
    have hPc := hP c
    have tM : ti (g (k + 7 + 6) c) = g (k + 7 + 6) c := ti_eq (by omega) (by omega)
    have tP : ti (g (k + 7 + 4) c) = g (k + 7 + 4) c := ti_eq (by omega) (by omega)
    by_cases hdo : g (k + 7 + 6) c = 1 ∧ g (k + 7 + 4) c < 0
    · obtain ⟨hm1, hp1⟩ := hdo
      have hp1' : ¬ 0 ≤ g (k + 7 + 4) c := by omega
      obtain ⟨G2, eG2⟩ : ∃ G2, G2 = gs (gs G (k + 1 + 2) c 0) (k + 1 + 3) c 5 := ⟨_, rfl⟩
      have s2 : ∀ i, G2 (k + 1 + 2) i = if i = c then 0 else G (k + 1 + 2) i := fun i => by
        rw [eG2, gs_off (by decide), gs_at]
      have s3 : ∀ i, G2 (k + 1 + 3) i = if i = c then 5 else G (k + 1 + 3) i := fun i => by
        rw [eG2, gs_at, gs_off (by decide)]
      have sr : ∀ h', ¬ h' = k + 1 + 2 → ¬ h' = k + 1 + 3 → G2 h' = G h' := fun h' x2 x3 => by
        rw [eG2, gs_row _ _ _ x3, gs_row _ _ _ x2]
      obtain ⟨G', a', e', j1, j2, j3, j4⟩ := ih (i + 1) G2 a e (some (.int (iI c))) y3 y4 (by omega) (by omega) (fun h' x1 x2 x3 => (sr h' x2 x3).trans (hfr h' x1 x2 x3)) (by rw [eG2]; exact StI_upd hI (by decide) (by decide)) (by
        refine ⟨fun c' x1 x2 x3 => ?_, fun c' x1 x2 x3 => ?_⟩
        · have hne : ¬ c' = c := fun e => x3 ⟨(oin_succ h).mpr (.inr (by rw [ec, e])), by rw [e]; exact hm1, by rw [e]; exact hp1⟩
          rw [s3, s2, if_neg hne, if_neg hne]
          exact hC.1 c' x1 x2 (fun x4 => x3 ⟨(oin_succ h).mpr (.inl x4.1), x4.2⟩)
        · rw [s3, s2]
          by_cases e : c' = c
          · rw [if_pos e, if_pos e]; exact ⟨rfl, rfl⟩
          · rw [if_neg e, if_neg e]
            rcases (oin_succ h).mp x1 with x4 | x4
            · exact hC.2 c' x4 x2 x3
            · exact absurd (x4.symm.trans ec) e)
      have hput := fun Q => c_putResult (X := X) (d := d) (g := gE G k a e) (c := c) (z := 0) (e := 5) (Q := Q) hB hc.1 c2 (by decide) (by decide)
      rw [if_neg (by decide), gE_sr _ _ _ _ _ _ _ (by omega), gE_sr _ _ _ _ _ _ _ (by omega), ← eG2] at hput
      refine ⟨G', a', e', j1, j2, j3, fun Q => ?_⟩
      rw [w_iload_n1 (pc' := 95) q64 d64_94 rfl]
      simp (config := { decide := true }) only [w_aload_n0 (pc' := 96) q64 d64_95 rfl, w_getV (pc' := 99) q64 d64_96 rfl f64_21, w_getI (pc' := 102) q64 d64_99 rfl f64_54, w_icmp_ge (tg := 155) (pc' := 105) q64 d64_102 (by decide) rfl, w_aload_n0 (pc' := 106) q64 d64_105 rfl, w_getV (pc' := 109) q64 d64_106 rfl f64_21, w_getV (pc' := 112) q64 d64_109 rfl f64_58, w_iload_n1 (pc' := 113) q64 d64_112 rfl, w_iaload (pc' := 114) q64 d64_113 rfl, w_istore_n2 (pc' := 115) q64 d64_114 rfl, w_aload_n0 (pc' := 116) q64 d64_115 rfl, w_getV (pc' := 119) q64 d64_116 rfl f64_21, w_getV (pc' := 122) q64 d64_119 rfl f64_50, w_iload_n2 (pc' := 123) q64 d64_122 rfl, w_zaload (pc' := 124) q64 d64_123 rfl, w_baload (pc' := 124) q64 d64_123 rfl, w_if_eq (tg := 149) (pc' := 127) q64 d64_124 (by decide) rfl, w_aload_n0 (pc' := 128) q64 d64_127 rfl, w_getV (pc' := 131) q64 d64_128 rfl f64_21, w_getV (pc' := 134) q64 d64_131 rfl f64_90, w_iload_n2 (pc' := 135) q64 d64_134 rfl, w_iaload (pc' := 136) q64 d64_135 rfl, w_if_ge (tg := 149) (pc' := 139) q64 d64_136 (by decide) rfl, w_aload_n0 (pc' := 140) q64 d64_139 rfl, w_getV (pc' := 143) q64 d64_140 rfl f64_14, w_iload_n2 (pc' := 144) q64 d64_143 rfl, w_iconst (pc' := 145) q64 d64_144 rfl, w_iconst (pc' := 146) q64 d64_145 rfl, w_invv3 (ci := 9) (pc' := 149) q64 d64_146 rfl n64_61 k64_61_9 m157.1, w_iinc1 (z := (1)) (pc' := 152) q64 d64_149 rfl, w_goto (tg := 94) q64 d64_152 (by decide), gs_off, gs_off0, gs_0off, gs_2, xN_0, xN_2, xN_3, xN_6, xN_7, xN_8, xN_9, xN_10, xN_11, xN_12, xN_13, xN_14, xN_15, xN_16, xN_17, xN_18, xN_19, xN_20, xN_21, xN_22, xN_23, xN_24, xN_25, xN_26, xN_27, xN_28, xN_29, xN_30, xN_31, xN_32, xN_33, xN_34, xN_35, xN_36, xN_37, xN_38, xN_39, xN_40, xN_41, xN_42, xN_43, xN_44, xN_45, xN_46, xN_47, xN_48, xN_49, xN_50, xN_51, xN_52, xN_53, xN_54, xN_55, ti_0, ti_1, ti_2, ti_3, ti_4, ti_5, ti_6, ti_7, ti_8, ti_9, ti_10, ti_16, ti_19, ti_20, ti_29, ti_30, ti_31, ti_32, ti_35, ti_36, ti_38, ti_39, ti_40, ti_41, ti_42, ti_43, ti_44, ti_45, ti_46, ti_47, ti_48, ti_49, ti_50, ti_51, ti_52, ti_53, ti_54, ti_55, ti_56, ti_57, ti_58, ti_59, ti_60, ti_61, ti_62, ti_63, ti_64, ti_65, ti_74, ti_77, ti_126, ti_200, ti_201, ti_202, ti_203, ti_204, ti_205, ti_210, ti_255, ti_256, ti_400, ti_512, ti_600, ti_601, ti_602, ti_1000, ti_1023, ti_1024, ti_2000, ti_10000, ti_12602, ti_999999, ti_m999999, ti_m1, ti_2000000, ti_3000000, xN_1, xN_4, xN_5, xN_60, xN_61, xN_64, xN_200, xN_800, xN_12000, xN_12602, eq_self, and_self, and_true, true_and, if_true, if_false, decide_true, Nat.reduceLeDiff, xc2_int, xc2_ref, xc2_ra, xc2_null, xc2_long, xc2_none, xisaT_ref, xisaT_ra, xisaT_null, xc1T_int, xc1T_ref, xc1T_ra, xc1T_null, xsum_nil, xsum_int, xsum_ref, xsum_ra, xsum_long, xsum_double, xsum_null, xfl_nil, xfl_int, xfl_ref, xfl_ra, xfl_null, xfl_long, xfl_double, List.length_cons, List.length_nil, k0, b0, l0, l2, l4, l6, e2, e3, e4, e6, ti', tn, hlt, h, i2, tc, hc.1, c2, tM, tP, hm1, hp1, hp1', hput, xfk, xfv, xak, xan, xcls, xsv', List.getElem?_cons_zero, List.getElem?_cons_succ, List.getD_cons_zero, List.getD_cons_succ, Option.getD_some, Option.isSome_some, if_true, if_pos, xcont, Option.toList_none, Option.toList_some, List.nil_append, List.cons_append]
      exact j4 Q
    · obtain ⟨G', a', e', j1, j2, j3, j4⟩ := ih (i + 1) G a e (some (.int (iI c))) y3 y4 (by omega) (by omega) hfr hI (by
        refine ⟨fun c' x1 x2 x3 => hC.1 c' x1 x2 (fun x4 => x3 ⟨(oin_succ h).mpr (.inl x4.1), x4.2⟩), fun c' x1 x2 x3 => ?_⟩
        rcases (oin_succ h).mp x1 with x4 | x4
        · exact hC.2 c' x4 x2 x3
        · rw [ec] at x4; subst x4; exact absurd ⟨x2, x3⟩ hdo)
      refine ⟨G', a', e', j1, j2, j3, fun Q => ?_⟩
      rw [w_iload_n1 (pc' := 95) q64 d64_94 rfl]
      by_cases hm0 : g (k + 7 + 6) c = 0
      · simp (config := { decide := true }) only [w_aload_n0 (pc' := 96) q64 d64_95 rfl, w_getV (pc' := 99) q64 d64_96 rfl f64_21, w_getI (pc' := 102) q64 d64_99 rfl f64_54, w_icmp_ge (tg := 155) (pc' := 105) q64 d64_102 (by decide) rfl, w_aload_n0 (pc' := 106) q64 d64_105 rfl, w_getV (pc' := 109) q64 d64_106 rfl f64_21, w_getV (pc' := 112) q64 d64_109 rfl f64_58, w_iload_n1 (pc' := 113) q64 d64_112 rfl, w_iaload (pc' := 114) q64 d64_113 rfl, w_istore_n2 (pc' := 115) q64 d64_114 rfl, w_aload_n0 (pc' := 116) q64 d64_115 rfl, w_getV (pc' := 119) q64 d64_116 rfl f64_21, w_getV (pc' := 122) q64 d64_119 rfl f64_50, w_iload_n2 (pc' := 123) q64 d64_122 rfl, w_zaload (pc' := 124) q64 d64_123 rfl, w_baload (pc' := 124) q64 d64_123 rfl, w_if_eq (tg := 149) (pc' := 127) q64 d64_124 (by decide) rfl, w_iinc1 (z := (1)) (pc' := 152) q64 d64_149 rfl, w_goto (tg := 94) q64 d64_152 (by decide), gs_off, gs_off0, gs_0off, gs_2, xN_0, xN_2, xN_3, xN_6, xN_7, xN_8, xN_9, xN_10, xN_11, xN_12, xN_13, xN_14, xN_15, xN_16, xN_17, xN_18, xN_19, xN_20, xN_21, xN_22, xN_23, xN_24, xN_25, xN_26, xN_27, xN_28, xN_29, xN_30, xN_31, xN_32, xN_33, xN_34, xN_35, xN_36, xN_37, xN_38, xN_39, xN_40, xN_41, xN_42, xN_43, xN_44, xN_45, xN_46, xN_47, xN_48, xN_49, xN_50, xN_51, xN_52, xN_53, xN_54, xN_55, ti_0, ti_1, ti_2, ti_3, ti_4, ti_5, ti_6, ti_7, ti_8, ti_9, ti_10, ti_16, ti_19, ti_20, ti_29, ti_30, ti_31, ti_32, ti_35, ti_36, ti_38, ti_39, ti_40, ti_41, ti_42, ti_43, ti_44, ti_45, ti_46, ti_47, ti_48, ti_49, ti_50, ti_51, ti_52, ti_53, ti_54, ti_55, ti_56, ti_57, ti_58, ti_59, ti_60, ti_61, ti_62, ti_63, ti_64, ti_65, ti_74, ti_77, ti_126, ti_200, ti_201, ti_202, ti_203, ti_204, ti_205, ti_210, ti_255, ti_256, ti_400, ti_512, ti_600, ti_601, ti_602, ti_1000, ti_1023, ti_1024, ti_2000, ti_10000, ti_12602, ti_999999, ti_m999999, ti_m1, ti_2000000, ti_3000000, xN_1, xN_4, xN_5, xN_60, xN_61, xN_64, xN_200, xN_800, xN_12000, xN_12602, eq_self, and_self, and_true, true_and, if_true, if_false, decide_true, Nat.reduceLeDiff, xc2_int, xc2_ref, xc2_ra, xc2_null, xc2_long, xc2_none, xisaT_ref, xisaT_ra, xisaT_null, xc1T_int, xc1T_ref, xc1T_ra, xc1T_null, xsum_nil, xsum_int, xsum_ref, xsum_ra, xsum_long, xsum_double, xsum_null, xfl_nil, xfl_int, xfl_ref, xfl_ra, xfl_null, xfl_long, xfl_double, List.length_cons, List.length_nil, k0, l0, l2, l4, l6, e2, e3, e4, e6, ti', tn, hlt, h, i2, tc, hc.1, c2, tM, hm0, xfk, xfv, xak, xan, xcls, xsv', List.getElem?_cons_zero, List.getElem?_cons_succ, List.getD_cons_zero, List.getD_cons_succ, Option.getD_some, Option.isSome_some, if_true, if_pos, xcont, Option.toList_none, Option.toList_some, List.nil_append, List.cons_append]
        exact j4 Q
      · have hm1 : g (k + 7 + 6) c = 1 := by omega
        have hp1 : 0 ≤ g (k + 7 + 4) c := by
          by_cases hh : 0 ≤ g (k + 7 + 4) c
          · exact hh
          · exact absurd ⟨hm1, by omega⟩ hdo
        simp (config := { decide := true }) only [w_aload_n0 (pc' := 96) q64 d64_95 rfl, w_getV (pc' := 99) q64 d64_96 rfl f64_21, w_getI (pc' := 102) q64 d64_99 rfl f64_54, w_icmp_ge (tg := 155) (pc' := 105) q64 d64_102 (by decide) rfl, w_aload_n0 (pc' := 106) q64 d64_105 rfl, w_getV (pc' := 109) q64 d64_106 rfl f64_21, w_getV (pc' := 112) q64 d64_109 rfl f64_58, w_iload_n1 (pc' := 113) q64 d64_112 rfl, w_iaload (pc' := 114) q64 d64_113 rfl, w_istore_n2 (pc' := 115) q64 d64_114 rfl, w_aload_n0 (pc' := 116) q64 d64_115 rfl, w_getV (pc' := 119) q64 d64_116 rfl f64_21, w_getV (pc' := 122) q64 d64_119 rfl f64_50, w_iload_n2 (pc' := 123) q64 d64_122 rfl, w_zaload (pc' := 124) q64 d64_123 rfl, w_baload (pc' := 124) q64 d64_123 rfl, w_if_eq (tg := 149) (pc' := 127) q64 d64_124 (by decide) rfl, w_aload_n0 (pc' := 128) q64 d64_127 rfl, w_getV (pc' := 131) q64 d64_128 rfl f64_21, w_getV (pc' := 134) q64 d64_131 rfl f64_90, w_iload_n2 (pc' := 135) q64 d64_134 rfl, w_iaload (pc' := 136) q64 d64_135 rfl, w_if_ge (tg := 149) (pc' := 139) q64 d64_136 (by decide) rfl, w_iinc1 (z := (1)) (pc' := 152) q64 d64_149 rfl, w_goto (tg := 94) q64 d64_152 (by decide), gs_off, gs_off0, gs_0off, gs_2, xN_0, xN_2, xN_3, xN_6, xN_7, xN_8, xN_9, xN_10, xN_11, xN_12, xN_13, xN_14, xN_15, xN_16, xN_17, xN_18, xN_19, xN_20, xN_21, xN_22, xN_23, xN_24, xN_25, xN_26, xN_27, xN_28, xN_29, xN_30, xN_31, xN_32, xN_33, xN_34, xN_35, xN_36, xN_37, xN_38, xN_39, xN_40, xN_41, xN_42, xN_43, xN_44, xN_45, xN_46, xN_47, xN_48, xN_49, xN_50, xN_51, xN_52, xN_53, xN_54, xN_55, ti_0, ti_1, ti_2, ti_3, ti_4, ti_5, ti_6, ti_7, ti_8, ti_9, ti_10, ti_16, ti_19, ti_20, ti_29, ti_30, ti_31, ti_32, ti_35, ti_36, ti_38, ti_39, ti_40, ti_41, ti_42, ti_43, ti_44, ti_45, ti_46, ti_47, ti_48, ti_49, ti_50, ti_51, ti_52, ti_53, ti_54, ti_55, ti_56, ti_57, ti_58, ti_59, ti_60, ti_61, ti_62, ti_63, ti_64, ti_65, ti_74, ti_77, ti_126, ti_200, ti_201, ti_202, ti_203, ti_204, ti_205, ti_210, ti_255, ti_256, ti_400, ti_512, ti_600, ti_601, ti_602, ti_1000, ti_1023, ti_1024, ti_2000, ti_10000, ti_12602, ti_999999, ti_m999999, ti_m1, ti_2000000, ti_3000000, xN_1, xN_4, xN_5, xN_60, xN_61, xN_64, xN_200, xN_800, xN_12000, xN_12602, eq_self, and_self, and_true, true_and, if_true, if_false, decide_true, Nat.reduceLeDiff, xc2_int, xc2_ref, xc2_ra, xc2_null, xc2_long, xc2_none, xisaT_ref, xisaT_ra, xisaT_null, xc1T_int, xc1T_ref, xc1T_ra, xc1T_null, xsum_nil, xsum_int, xsum_ref, xsum_ra, xsum_long, xsum_double, xsum_null, xfl_nil, xfl_int, xfl_ref, xfl_ra, xfl_null, xfl_long, xfl_double, List.length_cons, List.length_nil, k0, l0, l2, l4, l6, e2, e3, e4, e6, ti', tn, hlt, h, i2, tc, hc.1, c2, tM, tP, hm1, hp1, xfk, xfv, xak, xan, xcls, xsv', List.getElem?_cons_zero, List.getElem?_cons_succ, List.getD_cons_zero, List.getD_cons_succ, Option.getD_some, Option.isSome_some, if_true, if_pos, xcont, Option.toList_none, Option.toList_some, List.nil_append, List.cons_append]
        exact j4 Q
/-- what is computed: the marked formulas, in the order, the others keep theirs -/
def CmP (g g' : xGm) (k : Nat) : Prop :=
  ∀ c, 0 ≤ c → c < 200 → (¬ (g (k + 1 + 1) c = 2 ∧ g (k + 7 + 6) c = 1) → g' (k + 1 + 3) c = g (k + 1 + 3) c ∧ g' (k + 1 + 2) c = g (k + 1 + 2) c) ∧
    (g (k + 1 + 1) c = 2 → g (k + 7 + 6) c = 1 → oin (g (k + 7 + 3)) (g (k + 7) 4) c → g' (k + 1 + 3) c = (evT (tkl g (k + 1) c) (g (k + 1 + 1)) (g' (k + 1 + 3)) (g' (k + 1 + 2)) 0 0).1 ∧ g' (k + 1 + 2) c = (evT (tkl g (k + 1) c) (g (k + 1 + 1)) (g' (k + 1 + 3)) (g' (k + 1 + 2)) 0 0).2) ∧
    (g (k + 1 + 1) c = 2 → g (k + 7 + 6) c = 1 → ¬ oin (g (k + 7 + 3)) (g (k + 7) 4) c → g' (k + 1 + 3) c = 5 ∧ g' (k + 1 + 2) c = 0)
theorem c_computeMarked {k D : Nat} (hS : ClS S k) (hI : StI g (k + 1)) (hL : LkI (fmC g (k + 1)) (rfC g (k + 1)) g (k + 7)) (hV : VF g (k + 1)) (hM : rg g (k + 7 + 6) 0 1) (hD : 270 ≤ D) :
    ∃ g', (∀ h, ¬ h = k → ¬ h = k + 1 + 2 → ¬ h = k + 1 + 3 → g' h = g h) ∧ StI g' (k + 1) ∧ CmP g g' k ∧ ∀ Q, Cw X D 64 [.ref k] (hp S g) Q = Q (.inl (some (.int (iI (sumf (fun c => if fmC g (k + 1) c = true then g (k + 7 + 6) c else 0) 0 200))))) (hp S g') := by
  have k0 := hS.1
  obtain ⟨q1, q2, q3, q4, ⟨o1, o2, o3, o4, o5, o6⟩, q6, q7⟩ := id hL
  have hn := q2.1
  have hnr := ind_rng (fmC g (k + 1)) 200 0
  obtain ⟨D, rfl⟩ : ∃ D', D = D' + 2 := ⟨D - 2, by omega⟩
  obtain ⟨G1, a1, e1, y2, y3, y4, f1, f2, f3, f4⟩ := l_cm1 (X := X) (d := D + 1) (n := g (k + 7) 4) hS hL hV hM rfl (by omega) (by omega) (g (k + 7) 4).toNat 0 g (g k 2) (g k 4) none none none (by omega) (by omega) (fun _ _ _ _ => rfl) hI ⟨fun c _ _ _ => ⟨rfl, rfl⟩, fun i i1 i2 => by omega⟩
  obtain ⟨G2, a2, e2, g1, g2, g3, g4⟩ := l_cm2 (X := X) (d := D) (n := g (k + 7) 2) (G1 := G1) hS q3 o6 hM rfl (by omega) (by omega) rfl (g (k + 7) 2).toNat 0 G1 a1 e1 y2 y3 y4 (by omega) (by omega) f1 f2 ⟨fun c _ _ _ => ⟨rfl, rfl⟩, fun c ⟨i, i1, i2, _⟩ => by omega⟩
  have hfc : ∀ c, 0 ≤ c → c < 200 → (oin (g (k + 7 + 2)) (g (k + 7) 2) c ↔ g (k + 1 + 1) c = 2) := fun c c1 c2 => by
    constructor
    · rintro ⟨q, x1, x2, x3⟩
      obtain ⟨c', y1, y2, y3, y4⟩ := FC_ex q2 x1 x2
      rw [x3] at y4
      subst y4
      exact of_decide_eq_true y3
    · intro h
      obtain ⟨q, x1, x2, x3⟩ := FC_at q2 c1 c2 (decide_eq_true h)
      exact ⟨q, x1, x2, x3⟩
  have hpl : ∀ c, 0 ≤ c → c < 200 → (oin (g (k + 7 + 3)) (g (k + 7) 4) c ↔ 0 ≤ g (k + 7 + 4) c) := fun c c1 c2 => by
    constructor
    · rintro ⟨i, x1, x2, x3⟩
      have := o3 i x1 x2
      rw [x3] at this; omega
    · intro h
      exact Classical.byContradiction (fun hh => by have := o4 c c1 c2 hh; omega)
  refine ⟨gE G2 k a2 e2, fun h x1 x2 x3 => by rw [gE_row _ _ x1]; exact g1 h x1 x2 x3, ?_, fun c c1 c2 => ?_, fun Q => ?_⟩
  · unfold StI rg
    rw [gE_row _ _ (by omega), gE_row _ _ (by omega), gE_row _ _ (by omega), gE_row _ _ (by omega), gE_row _ _ (by omega)]
    exact g2
  · rw [gE_off, gE_off]
    have hev : ∀ c, 0 ≤ c → c < 200 → g (k + 1 + 1) c = 2 → oin (g (k + 7 + 3)) (g (k + 7) 4) c → evT (tkl g (k + 1) c) (g (k + 1 + 1)) (G1 (k + 1 + 3)) (G1 (k + 1 + 2)) 0 0 = evT (tkl g (k + 1) c) (g (k + 1 + 1)) (G2 (k + 1 + 3)) (G2 (k + 1 + 2)) 0 0 := fun c c1 c2 hk ho => by
      refine evT_loc (hV c c1 c2 hk) (fun o y1 y2 y3 => ⟨rfl, ?_⟩)
      have := g3.1 o y1 y2 (fun ⟨z1, z2, z3⟩ => by
        have hko := (hfc o y1 y2).mp z1
        obtain ⟨i, i1, i2, i3⟩ := ho
        obtain ⟨j, j1, j2, j3⟩ := (OdF_at o2 i1 i2).2.2.2.2 o y1 y2 (decide_eq_true hko) (by rw [i3]; exact tkl_rf hk y3)
        have := (hpl o y1 y2).mp ⟨j, j1, by omega, j3⟩
        omega)
      exact ⟨this.1.symm, this.2.symm⟩
    refine ⟨fun h => ?_, fun h1 h2 h3 => ?_, fun h1 h2 h3 => ?_⟩
    · obtain ⟨x1, x2⟩ := g3.1 c c1 c2 (fun z => h ⟨(hfc c c1 c2).mp z.1, z.2.1⟩)
      obtain ⟨y1, y2⟩ := f3.1 c c1 c2 (fun z => h ⟨by
        obtain ⟨i, i1, i2, i3⟩ := z.1
        have := (OdF_at o2 i1 i2).2.2.1
        rw [i3] at this
        exact of_decide_eq_true this, z.2⟩)
      exact ⟨x1.trans y1, x2.trans y2⟩
    · obtain ⟨x1, x2⟩ := g3.1 c c1 c2 (fun z => by have := (hpl c c1 c2).mp h3; omega)
      have he := hev c c1 c2 h1 h3
      obtain ⟨i, i1, i2, i3⟩ := h3
      have := f3.2 i i1 i2 (by rw [i3]; exact h2)
      rw [i3] at this
      rw [x1, x2, ← he]
      exact this
    · exact g3.2 c ((hfc c c1 c2).mpr h1) h2 (by
        by_cases hh : 0 ≤ g (k + 7 + 4) c
        · exact absurd ((hpl c c1 c2).mpr hh) h3
        · omega)
  · have hs := sumf_FC q2 (g (k + 7 + 6))
    have h1 := f4 Q
    have h2 := g4 Q
    rw [gE_self] at h1
    rw [← hs, e64]
    simp (config := { decide := true }) only [w_iconst (pc' := 1) q64 d64_0 rfl, w_istore_n1 (pc' := 2) q64 d64_1 rfl, gs_off, gs_off0, gs_0off, gs_2, xN_0, xN_2, xN_3, xN_6, xN_7, xN_8, xN_9, xN_10, xN_11, xN_12, xN_13, xN_14, xN_15, xN_16, xN_17, xN_18, xN_19, xN_20, xN_21, xN_22, xN_23, xN_24, xN_25, xN_26, xN_27, xN_28, xN_29, xN_30, xN_31, xN_32, xN_33, xN_34, xN_35, xN_36, xN_37, xN_38, xN_39, xN_40, xN_41, xN_42, xN_43, xN_44, xN_45, xN_46, xN_47, xN_48, xN_49, xN_50, xN_51, xN_52, xN_53, xN_54, xN_55, ti_0, ti_1, ti_2, ti_3, ti_4, ti_5, ti_6, ti_7, ti_8, ti_9, ti_10, ti_16, ti_19, ti_20, ti_29, ti_30, ti_31, ti_32, ti_35, ti_36, ti_38, ti_39, ti_40, ti_41, ti_42, ti_43, ti_44, ti_45, ti_46, ti_47, ti_48, ti_49, ti_50, ti_51, ti_52, ti_53, ti_54, ti_55, ti_56, ti_57, ti_58, ti_59, ti_60, ti_61, ti_62, ti_63, ti_64, ti_65, ti_74, ti_77, ti_126, ti_200, ti_201, ti_202, ti_203, ti_204, ti_205, ti_210, ti_255, ti_256, ti_400, ti_512, ti_600, ti_601, ti_602, ti_1000, ti_1023, ti_1024, ti_2000, ti_10000, ti_12602, ti_999999, ti_m999999, ti_m1, ti_2000000, ti_3000000, xN_1, xN_4, xN_5, xN_60, xN_61, xN_64, xN_200, xN_800, xN_12000, xN_12602, eq_self, and_self, and_true, true_and, if_true, if_false, decide_true, Nat.reduceLeDiff, xc2_int, xc2_ref, xc2_ra, xc2_null, xc2_long, xc2_none, xisaT_ref, xisaT_ra, xisaT_null, xc1T_int, xc1T_ref, xc1T_ra, xc1T_null, xsum_nil, xsum_int, xsum_ref, xsum_ra, xsum_long, xsum_double, xsum_null, xfl_nil, xfl_int, xfl_ref, xfl_ra, xfl_null, xfl_long, xfl_double, List.length_cons, List.length_nil, xfk, xfv, xak, xan, xcls, xsv', List.getElem?_cons_zero, List.getElem?_cons_succ, List.getD_cons_zero, List.getD_cons_succ, Option.getD_some, Option.isSome_some, if_true, if_pos, xcont, Option.toList_none, Option.toList_some, List.nil_append, List.cons_append]
    rw [h1]
    simp (config := { decide := true }) only [w_iconst (pc' := 93) q64 d64_92 rfl, w_istore_n1 (pc' := 94) q64 d64_93 rfl, gs_off, gs_off0, gs_0off, gs_2, xN_0, xN_2, xN_3, xN_6, xN_7, xN_8, xN_9, xN_10, xN_11, xN_12, xN_13, xN_14, xN_15, xN_16, xN_17, xN_18, xN_19, xN_20, xN_21, xN_22, xN_23, xN_24, xN_25, xN_26, xN_27, xN_28, xN_29, xN_30, xN_31, xN_32, xN_33, xN_34, xN_35, xN_36, xN_37, xN_38, xN_39, xN_40, xN_41, xN_42, xN_43, xN_44, xN_45, xN_46, xN_47, xN_48, xN_49, xN_50, xN_51, xN_52, xN_53, xN_54, xN_55, ti_0, ti_1, ti_2, ti_3, ti_4, ti_5, ti_6, ti_7, ti_8, ti_9, ti_10, ti_16, ti_19, ti_20, ti_29, ti_30, ti_31, ti_32, ti_35, ti_36, ti_38, ti_39, ti_40, ti_41, ti_42, ti_43, ti_44, ti_45, ti_46, ti_47, ti_48, ti_49, ti_50, ti_51, ti_52, ti_53, ti_54, ti_55, ti_56, ti_57, ti_58, ti_59, ti_60, ti_61, ti_62, ti_63, ti_64, ti_65, ti_74, ti_77, ti_126, ti_200, ti_201, ti_202, ti_203, ti_204, ti_205, ti_210, ti_255, ti_256, ti_400, ti_512, ti_600, ti_601, ti_602, ti_1000, ti_1023, ti_1024, ti_2000, ti_10000, ti_12602, ti_999999, ti_m999999, ti_m1, ti_2000000, ti_3000000, xN_1, xN_4, xN_5, xN_60, xN_61, xN_64, xN_200, xN_800, xN_12000, xN_12602, eq_self, and_self, and_true, true_and, if_true, if_false, decide_true, Nat.reduceLeDiff, xc2_int, xc2_ref, xc2_ra, xc2_null, xc2_long, xc2_none, xisaT_ref, xisaT_ra, xisaT_null, xc1T_int, xc1T_ref, xc1T_ra, xc1T_null, xsum_nil, xsum_int, xsum_ref, xsum_ra, xsum_long, xsum_double, xsum_null, xfl_nil, xfl_int, xfl_ref, xfl_ra, xfl_null, xfl_long, xfl_double, List.length_cons, List.length_nil, xfk, xfv, xak, xan, xcls, xsv', List.getElem?_cons_zero, List.getElem?_cons_succ, List.getD_cons_zero, List.getD_cons_succ, Option.getD_some, Option.isSome_some, if_true, if_pos, xcont, Option.toList_none, Option.toList_some, List.nil_append, List.cons_append]
    exact h2
end
